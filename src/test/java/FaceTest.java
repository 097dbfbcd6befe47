import java.lang.reflect.Constructor;
import java.lang.reflect.Field;
import java.lang.reflect.Method;
import java.lang.reflect.Modifier;
import java.util.Arrays;
import java.util.TreeSet;

/** The public face is the document's, and nothing else can be seen from outside. */
public final class FaceTest {
    private static final String[] FACE = {
        "boolean set(int,int)", "int parameter(int)", "boolean sense(int,int)", "int conditioned(int)",
        "boolean faulty(int)", "int next()", "int acknowledge()", "boolean substitute(int)", "int tick(int)",
        "int phase()", "int alarms()", "int conditions()", "int outputs()", "int effective()", "int accounted()",
        "int strokes()", "int trips()", "int counted()", "int steady()",
    };

    public static void main(String[] args) {
        Checks checks = new Checks();
        Class<?> c = BloodCircuitChannels.class;
        checks.due("class is public", Modifier.isPublic(c.getModifiers()), true);
        checks.due("class is final", Modifier.isFinal(c.getModifiers()), true);
        checks.due("constructors", c.getDeclaredConstructors().length, 1);
        for (Constructor<?> made : c.getDeclaredConstructors()) {
            checks.due("public " + made, Modifier.isPublic(made.getModifiers()), true);
            checks.due("parameters of " + made, made.getParameterCount(), 0);
        }
        TreeSet<String> seen = new TreeSet<>();
        TreeSet<String> publicNames = new TreeSet<>();
        for (Method method : c.getDeclaredMethods()) {
            if (!Modifier.isPrivate(method.getModifiers())) {
                seen.add(written(method));
                publicNames.add(method.getName());
            }
        }
        checks.due("methods " + seen, seen.equals(new TreeSet<>(Arrays.asList(FACE))), true);
        for (Method method : c.getDeclaredMethods()) {
            if (Modifier.isPrivate(method.getModifiers())) {
                checks.due("public name of " + method, publicNames.contains(method.getName()), false);
            }
        }
        for (Field field : c.getDeclaredFields()) {
            checks.due("private " + field, Modifier.isPrivate(field.getModifiers()), true);
            checks.due("static only if final " + field,
                    !Modifier.isStatic(field.getModifiers()) || Modifier.isFinal(field.getModifiers()), true);
        }
        checks.end();
    }

    private static String written(Method method) {
        StringBuilder text = new StringBuilder();
        text.append(method.getReturnType().getName()).append(' ').append(method.getName()).append('(');
        for (Class<?> type : method.getParameterTypes()) {
            text.append(text.charAt(text.length() - 1) == '(' ? "" : ",").append(type.getName());
        }
        return text.append(')').toString();
    }
}
