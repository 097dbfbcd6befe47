import java.util.ArrayList;
import java.util.LinkedHashMap;
import java.util.List;
import java.util.Map;
import java.util.function.Supplier;
import java.util.function.ToIntFunction;

/**
 * "A call that is refused changes nothing.": each kind of refused call, in each of many states, is made on one of two
 * like objects; both must answer all questions alike, then and while they go on.
 */
public final class RefusedCallsTest {
    private static final int[][] RANGES = {
        {50, 600}, {0, 6000}, {0, 2000}, {1, 600}, {340, 390},
        {1250, 1600}, {-400, 0}, {-300, 200}, {0, 200}, {50, 500},
    };
    private static final int[] FAR = {Integer.MIN_VALUE, Integer.MAX_VALUE};
    private static final Checks CHECKS = new Checks();
    private static final Map<String, ToIntFunction<BloodCircuitChannels>> QUESTIONS = questions();
    private static final Map<String, Supplier<BloodCircuitChannels>> STATES = states();

    public static void main(String[] args) {
        questionsChangeNothing();
        refusedSet();
        refusedSense();
        refusedSubstitute();
        refusedTick();
        refusedNext();
        acknowledgeChangesAlarmsAlone();
        CHECKS.end();
    }

    private static Map<String, ToIntFunction<BloodCircuitChannels>> questions() {
        Map<String, ToIntFunction<BloodCircuitChannels>> all = new LinkedHashMap<>();
        for (int k = 0; k < 10; k++) {
            int parameter = k;
            all.put("parameter(" + k + ")", x -> x.parameter(parameter));
        }
        for (int k = 0; k < 6; k++) {
            int sensor = k;
            all.put("conditioned(" + k + ")", x -> x.conditioned(sensor));
            all.put("faulty(" + k + ")", x -> x.faulty(sensor) ? 1 : 0);
        }
        all.put("phase()", BloodCircuitChannels::phase);
        all.put("alarms()", BloodCircuitChannels::alarms);
        all.put("conditions()", BloodCircuitChannels::conditions);
        all.put("outputs()", BloodCircuitChannels::outputs);
        all.put("effective()", BloodCircuitChannels::effective);
        all.put("accounted()", BloodCircuitChannels::accounted);
        all.put("strokes()", BloodCircuitChannels::strokes);
        all.put("trips()", BloodCircuitChannels::trips);
        all.put("counted()", BloodCircuitChannels::counted);
        all.put("steady()", BloodCircuitChannels::steady);
        return all;
    }

    /** Each phase, at its beginning and later, with what no question shows: rows of ticks, raw values, substitution. */
    private static Map<String, Supplier<BloodCircuitChannels>> states() {
        Map<String, Supplier<BloodCircuitChannels>> all = new LinkedHashMap<>();
        for (int p = 0; p <= 6; p++) {
            int phase = p;
            all.put("phase " + p + " begins", () -> Checks.inPhase(phase, 33, 1));
            all.put("phase " + p + " under way", () -> underWay(phase));
            all.put("phase " + p + " with SENSOR", () -> withSensor(phase));
            all.put("phase " + p + ", conditions hold", () -> withConditions(phase));
            all.put("phase " + p + ", a tick before alarms", () -> beforeAlarms(phase, 1));
            all.put("phase " + p + ", two ticks before alarms", () -> beforeAlarms(phase, 2));
            all.put("phase " + p + " after a treatment", () -> afterATreatment(phase));
        }
        return all;
    }

    private static BloodCircuitChannels underWay(int phase) {
        BloodCircuitChannels x = Checks.inPhase(phase, 33, 1);
        x.tick(19);
        x.substitute(9);
        x.sense(1, 90);
        x.sense(4, 1);
        return x;
    }

    private static BloodCircuitChannels withSensor(int phase) {
        BloodCircuitChannels x = Checks.inPhase(phase, 33, 1);
        x.tick(15);
        Checks.raise(x, 32);
        Checks.soothe(x);
        x.tick(1);
        return x;
    }

    private static BloodCircuitChannels withConditions(int phase) {
        BloodCircuitChannels x = Checks.inPhase(phase, 33, 1);
        x.sense(3, 3001);
        x.tick(2);
        x.sense(4, 1);
        x.sense(5, 1);
        x.tick(1);
        return x;
    }

    /** In the phases 2 .. 4 ARTERIAL, VENOUS, FLUID and SENSOR come together, in the others the last two. */
    private static BloodCircuitChannels beforeAlarms(int phase, int ticks) {
        BloodCircuitChannels x = Checks.inPhase(phase, 33, 1);
        if (ticks == 2) {
            // Without PUMP nothing counts towards the end of 1 and 4, where next is refused then.
            x.substitute(0);
        }
        x.sense(2, 376);
        x.tick(570);
        x.sense(0, -201);
        x.sense(1, 301);
        x.tick(27);
        x.sense(3, 3001);
        x.tick(3 - ticks);
        return x;
    }

    /** For 1 .. 3 it is the phase of a second round. */
    private static BloodCircuitChannels afterATreatment(int phase) {
        BloodCircuitChannels x = Checks.inPhase(3, 33, 1);
        x.tick(100);
        x.sense(0, 251);
        x.tick(1);
        x.sense(0, 0);
        do {
            Checks.leave(x);
        } while (x.phase() != phase);
        return x;
    }

    private static void compareAll(String what, BloodCircuitChannels got, BloodCircuitChannels want) {
        for (Map.Entry<String, ToIntFunction<BloodCircuitChannels>> question : QUESTIONS.entrySet()) {
            ToIntFunction<BloodCircuitChannels> ask = question.getValue();
            CHECKS.due(what + ": " + question.getKey(), ask.applyAsInt(got), ask.applyAsInt(want));
        }
    }

    /** Goes on with both, so that what no question shows comes to light. */
    private static void goOn(String what, BloodCircuitChannels got, BloodCircuitChannels want) {
        List<ToIntFunction<BloodCircuitChannels>> steps = new ArrayList<>();
        // Two ticks before the key: a key that is refused here too must not hide what the first one did to a row.
        steps.add(x -> x.tick(1));
        steps.add(x -> x.tick(1));
        steps.add(BloodCircuitChannels::next);
        steps.add(x -> x.tick(9));
        steps.add(BloodCircuitChannels::acknowledge);
        steps.add(x -> x.tick(600));
        steps.add(BloodCircuitChannels::next);
        steps.add(x -> x.tick(600));
        int step = 0;
        for (ToIntFunction<BloodCircuitChannels> call : steps) {
            step++;
            String where = what + ", step " + step + " later";
            CHECKS.due(where, call.applyAsInt(got), call.applyAsInt(want));
            compareAll(where, got, want);
        }
    }

    private static void refused(String state, String call, ToIntFunction<BloodCircuitChannels> made, int answer) {
        Supplier<BloodCircuitChannels> make = STATES.get(state);
        BloodCircuitChannels got = make.get();
        BloodCircuitChannels want = make.get();
        String what = call + " in " + state;
        CHECKS.due(what, made.applyAsInt(got), answer);
        compareAll(what, got, want);
        goOn(what, got, want);
    }

    private static int asInt(boolean answer) {
        return answer ? 1 : 0;
    }

    private static boolean isInPhase0(String state) {
        return state.startsWith("phase 0");
    }

    /** No question changes anything, not even one about what is not there. */
    private static void questionsChangeNothing() {
        for (String state : STATES.keySet()) {
            int[] none = {-1, 10, Integer.MIN_VALUE, Integer.MAX_VALUE};
            for (int k : none) {
                refused(state, "parameter(" + k + ")", x -> x.parameter(k), 0);
                refused(state, "conditioned(" + k + ")", x -> x.conditioned(k), 0);
                refused(state, "faulty(" + k + ")", x -> asInt(x.faulty(k)), 0);
            }
            BloodCircuitChannels x = STATES.get(state).get();
            compareAll("asked twice in " + state, x, x);
        }
    }

    /** "false when there is no parameter k, v is not in its range, or the phase is not 0" */
    private static void refusedSet() {
        for (String state : STATES.keySet()) {
            int[] none = {-1, 10, Integer.MIN_VALUE, Integer.MAX_VALUE};
            for (int k : none) {
                refused(state, "set(" + k + ", 100)", x -> asInt(x.set(k, 100)), 0);
            }
            for (int p = 0; p < RANGES.length; p++) {
                int k = p;
                int[] edges = {RANGES[k][0], RANGES[k][1]};
                int[] outside = {RANGES[k][0] - 1, RANGES[k][1] + 1, FAR[0], FAR[1]};
                for (int v : outside) {
                    refused(state, "set(" + k + ", " + v + ")", x -> asInt(x.set(k, v)), 0);
                }
                for (int v : edges) {
                    if (!isInPhase0(state)) {
                        refused(state, "set(" + k + ", " + v + ")", x -> asInt(x.set(k, v)), 0);
                    }
                }
            }
        }
    }

    /** "Answers whether there is a sensor k." */
    private static void refusedSense() {
        for (String state : STATES.keySet()) {
            int[] none = {-1, 6, Integer.MIN_VALUE, Integer.MAX_VALUE};
            for (int k : none) {
                refused(state, "sense(" + k + ", 1)", x -> asInt(x.sense(k, 1)), 0);
                refused(state, "sense(" + k + ", 9999)", x -> asInt(x.sense(k, 9999)), 0);
            }
        }
    }

    /** "false when commands is not -1 .. 15" */
    private static void refusedSubstitute() {
        for (String state : STATES.keySet()) {
            int[] wrong = {-2, 16, 17, Integer.MIN_VALUE, Integer.MAX_VALUE};
            for (int commands : wrong) {
                refused(state, "substitute(" + commands + ")", x -> asInt(x.substitute(commands)), 0);
            }
        }
    }

    /** "-1 when n is not 1 .. 600" */
    private static void refusedTick() {
        for (String state : STATES.keySet()) {
            int[] wrong = {0, -1, 601, Integer.MIN_VALUE, Integer.MAX_VALUE};
            for (int n : wrong) {
                refused(state, "tick(" + n + ")", x -> x.tick(n), -1);
            }
        }
    }

    /** "-1 when it is refused: from 0, unless ...; from 1, unless ...; from 2, ...; from 4, ...; from 5, ..." */
    private static void refusedNext() {
        Map<String, Supplier<BloodCircuitChannels>> more = new LinkedHashMap<>();
        more.put("0, A-LOW and A-HIGH", () -> preparedWith(new int[][] {{6, 0}, {7, 19}}));
        more.put("0, V-LOW and V-HIGH", () -> preparedWith(new int[][] {{8, 200}, {9, 219}}));
        more.put("0, VOLUME", () -> preparedWith(new int[][] {{1, 4001}}));
        more.put("0, off in the 20th last tick", RefusedCallsTest::offTwentyTicksAgo);
        more.put("0, 19 ticks", () -> afterTicks(0, 19));
        more.put("1, 99 ticks", () -> afterTicks(1, 99));
        more.put("2 with AIR", RefusedCallsTest::connectingWithAir);
        more.put("4, 49 ticks", () -> afterTicks(4, 49));
        more.put("5, 29 ticks", () -> afterTicks(5, 29));
        STATES.putAll(more);
        for (String state : more.keySet()) {
            refused(state, "next()", BloodCircuitChannels::next, -1);
        }
        int others = 0;
        for (String state : STATES.keySet()) {
            if (STATES.get(state).get().next() == -1) {
                refused(state, "next()", BloodCircuitChannels::next, -1);
                others++;
            }
        }
        CHECKS.due("states in which next is refused", others >= 25, true);
    }

    /** "of the alarms that stand, those ... stand no more": nothing else changes. */
    private static void acknowledgeChangesAlarmsAlone() {
        for (String state : STATES.keySet()) {
            BloodCircuitChannels got = STATES.get(state).get();
            BloodCircuitChannels want = STATES.get(state).get();
            int left = want.alarms() & want.conditions();
            boolean allHold = left == want.alarms();
            String what = "acknowledge() in " + state;
            CHECKS.due(what, got.acknowledge(), left);
            for (Map.Entry<String, ToIntFunction<BloodCircuitChannels>> question : QUESTIONS.entrySet()) {
                ToIntFunction<BloodCircuitChannels> ask = question.getValue();
                boolean mayDiffer = question.getKey().equals("alarms()");
                int due = mayDiffer ? left : ask.applyAsInt(want);
                CHECKS.due(what + ": " + question.getKey(), ask.applyAsInt(got), due);
            }
            if (allHold) {
                goOn(what, got, want);
            }
        }
    }

    private static BloodCircuitChannels preparedWith(int[][] settings) {
        BloodCircuitChannels x = Checks.inPhase(0, settings);
        x.tick(20);
        return x;
    }

    private static BloodCircuitChannels offTwentyTicksAgo() {
        BloodCircuitChannels x = Checks.inPhase(0, 33, 1);
        x.sense(2, 376);
        x.tick(1);
        x.sense(2, 370);
        x.tick(19);
        return x;
    }

    private static BloodCircuitChannels afterTicks(int phase, int ticks) {
        BloodCircuitChannels x = Checks.inPhase(phase, 33, 1);
        x.tick(ticks);
        return x;
    }

    private static BloodCircuitChannels connectingWithAir() {
        BloodCircuitChannels x = Checks.inPhase(2, 33, 1);
        Checks.raise(x, 4);
        Checks.soothe(x);
        x.tick(1);
        return x;
    }
}
