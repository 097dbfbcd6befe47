import java.util.ArrayList;

/**
 * The document once more, for ModelTest: it keeps every tick that was made and looks back on them, instead of
 * counting as the program does.
 */
final class Model {
    private static final int[][] PARAMETER_RANGES = {
        {50, 600}, {0, 6000}, {0, 2000}, {1, 600}, {340, 390},
        {1250, 1600}, {-400, 0}, {-300, 200}, {0, 200}, {50, 500},
    };
    private static final int[][] PLAUSIBLE = {{-700, 500}, {-200, 800}, {0, 600}, {0, 3000}, {0, 1}, {0, 1}};

    /** What later ticks and questions ask of a tick. */
    private static final class Tick {
        int phase;
        final boolean[] plausible = new boolean[6];
        boolean arterialOut;
        boolean venousOut;
        boolean off;
        int conditions;
        int outputs;
        boolean tripped;
    }

    final int[] parameters = {300, 0, 1000, 240, 370, 1400, -200, 100, 50, 300};
    final int[] raw = {0, 100, 370, 1400, 0, 0};
    final int[] conditioned = raw.clone();
    private final ArrayList<Tick> ticks = new ArrayList<>();
    int phase = 0;
    int alarms = 0;
    private int substitution = -1;
    private int effectiveTicks = 0;
    private int accountedVolume = 0;
    private int strokesMade = 0;
    private int towardsEnd = 0;

    boolean set(int k, int v) {
        boolean taken = phase == 0 && k >= 0 && k <= 9 && v >= PARAMETER_RANGES[k][0] && v <= PARAMETER_RANGES[k][1];
        if (taken) {
            parameters[k] = v;
        }
        return taken;
    }

    boolean sense(int k, int v) {
        boolean taken = k >= 0 && k <= 5;
        if (taken) {
            raw[k] = v;
        }
        return taken;
    }

    boolean substitute(int commands) {
        boolean taken = commands >= -1 && commands <= 15;
        if (taken) {
            substitution = commands;
        }
        return taken;
    }

    int parameter(int k) {
        return k >= 0 && k <= 9 ? parameters[k] : 0;
    }

    int conditioned(int k) {
        return k >= 0 && k <= 5 ? conditioned[k] : 0;
    }

    boolean faulty(int k) {
        if (k < 0 || k > 5 || ticks.size() < 3) {
            return false;
        }
        for (int back = 1; back <= 3; back++) {
            if (last(back).plausible[k]) {
                return false;
            }
        }
        return true;
    }

    int next() {
        boolean led = switch (phase) {
            case 0 -> consistent() && steady() >= 20 && alarms == 0;
            case 1 -> towardsEnd >= 100;
            case 2 -> alarms == 0;
            case 4 -> towardsEnd >= 50;
            case 5 -> towardsEnd >= 30;
            default -> true;
        };
        if (!led) {
            return -1;
        }
        begin((phase + 1) % 7);
        return phase;
    }

    int acknowledge() {
        for (int alarm = 1; alarm <= 32; alarm *= 2) {
            if ((alarms & alarm) != 0 && (conditions() & alarm) == 0) {
                alarms -= alarm;
            }
        }
        return alarms;
    }

    int tick(int n) {
        if (n < 1 || n > 600) {
            return -1;
        }
        int made = 0;
        boolean ends = false;
        while (made < n && !ends) {
            int alarmsBefore = alarms;
            int phaseBefore = phase;
            oneTick();
            made++;
            ends = (alarms & ~alarmsBefore) != 0 || phase != phaseBefore;
        }
        return made;
    }

    int conditions() {
        return ticks.isEmpty() ? 0 : last(1).conditions;
    }

    int outputs() {
        return ticks.isEmpty() ? 0 : last(1).outputs;
    }

    int effective() {
        return effectiveTicks;
    }

    int accounted() {
        return accountedVolume;
    }

    int strokes() {
        return strokesMade;
    }

    int trips() {
        int sum = 0;
        for (Tick tick : ticks) {
            sum += tick.tripped ? 1 : 0;
        }
        return sum;
    }

    int counted() {
        return towardsEnd;
    }

    int steady() {
        int row = 0;
        while (row < ticks.size() && !last(row + 1).off) {
            row++;
        }
        return row;
    }

    private Tick last(int back) {
        return ticks.get(ticks.size() - back);
    }

    private boolean consistent() {
        int[] p = parameters;
        return p[6] + 20 <= p[7] && p[8] + 20 <= p[9] && 60 * p[1] <= p[2] * p[3];
    }

    private void begin(int begun) {
        phase = begun;
        towardsEnd = 0;
        if (begun == 3) {
            effectiveTicks = 0;
            accountedVolume = 0;
            strokesMade = 0;
        }
    }

    private void oneTick() {
        Tick now = new Tick();
        now.phase = phase;
        ticks.add(now);
        for (int k = 0; k < 6; k++) {
            now.plausible[k] = raw[k] >= PLAUSIBLE[k][0] && raw[k] <= PLAUSIBLE[k][1];
            if (now.plausible[k]) {
                conditioned[k] = raw[k];
            }
        }
        now.arterialOut = conditioned[0] < parameters[6] || conditioned[0] > parameters[7];
        now.venousOut = conditioned[1] < parameters[8] || conditioned[1] > parameters[9];
        now.off = conditioned[2] < parameters[4] - 5 || conditioned[2] > parameters[4] + 5
                || conditioned[3] < parameters[5] - 40 || conditioned[3] > parameters[5] + 40;
        now.conditions = conditionsHeld();
        alarms |= now.conditions;
        int commands = control(now);
        if (substitution != -1) {
            commands = substitution;
        }
        now.outputs = protect(now, commands);
        if (now.outputs >= 8) {
            strokesMade++;
        }
        if (phase == 5 || (phase == 1 || phase == 4) && now.outputs % 2 == 1) {
            towardsEnd++;
        }
        if (phase == 3 && effectiveTicks == 600 * parameters[3]) {
            begin(4);
        }
    }

    private int conditionsHeld() {
        boolean connected = phase == 2 || phase == 3 || phase == 4;
        int sum = 0;
        if (outInEachOfTheLast30(true)) {
            sum += 1;
        }
        if (outInEachOfTheLast30(false)) {
            sum += 2;
        }
        if (connected && conditioned[4] == 1) {
            sum += 4;
        }
        if (phase == 3 && conditioned[5] == 1) {
            sum += 8;
        }
        if (offInEachOfTheLast600()) {
            sum += 16;
        }
        if (faulty(0) || faulty(1) || faulty(2) || faulty(3) || faulty(4) || faulty(5)) {
            sum += 32;
        }
        return sum;
    }

    private boolean outInEachOfTheLast30(boolean arterial) {
        if (ticks.size() < 30) {
            return false;
        }
        for (int back = 1; back <= 30; back++) {
            Tick tick = last(back);
            boolean out = arterial ? tick.arterialOut : tick.venousOut;
            if (!out || tick.phase < 2 || tick.phase > 4) {
                return false;
            }
        }
        return true;
    }

    private boolean offInEachOfTheLast600() {
        if (ticks.size() < 600) {
            return false;
        }
        for (int back = 1; back <= 600; back++) {
            if (!last(back).off) {
                return false;
            }
        }
        return true;
    }

    private boolean stands(int alarm) {
        return (alarms & alarm) != 0;
    }

    private int control(Tick now) {
        boolean flowing = phase >= 1 && phase <= 4;
        boolean stopped = stands(1) || stands(2) || stands(4) || stands(8) || stands(32);
        boolean clamped = stands(2) || stands(4) || stands(32);
        boolean bypass = phase != 3 || now.off || stands(8);
        int sum = (flowing && !stopped ? 1 : 0) + (flowing && !clamped ? 2 : 0) + (bypass ? 4 : 0);
        if (phase == 3 && flowing && !stopped && !bypass) {
            effectiveTicks++;
            long wanted = parameters[1] * 1000L * effectiveTicks / (600L * parameters[3]);
            if (wanted - accountedVolume >= 500) {
                accountedVolume += 500;
                sum += 8;
            }
        }
        return sum;
    }

    private int protect(Tick now, int commands) {
        boolean pump = commands % 2 == 1;
        boolean clampOpen = commands / 2 % 2 == 1;
        boolean bypass = commands / 4 % 2 == 1;
        boolean stroke = commands / 8 % 2 == 1;
        boolean bad = raw[4] != 0 || raw[0] < -350 || raw[0] > 250 || raw[1] < -50 || raw[1] > 450;
        now.tripped = bad && phase >= 2 && phase <= 4;
        if (now.tripped) {
            pump = false;
            clampOpen = false;
            stroke = false;
        }
        if (phase == 3 && raw[2] > 410) {
            bypass = true;
        }
        if (phase != 3 || 500 * strokesMade + 500 > 1000 * parameters[1] + 500) {
            stroke = false;
        }
        return (pump ? 1 : 0) + (clampOpen ? 2 : 0) + (bypass ? 4 : 0) + (stroke ? 8 : 0);
    }
}
