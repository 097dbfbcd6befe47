/** Counts the answers that are not as due, and leads objects to where a test begins. */
final class Checks {
    static final int[] GOOD = {0, 100, 370, 1400, 0, 0};
    static final int[] ALARMS = {1, 2, 4, 8, 16, 32};
    /** For each alarm: a sensor, a value of it, and the ticks in phase 3 after which the alarm is raised by it. */
    private static final int[][] RAISING = {
        {0, -300, 30}, {1, 400, 30}, {4, 1, 1}, {5, 1, 1}, {3, 1300, 600}, {5, -1, 3},
    };
    private static final int[] TICKS_TO_LEAVE = {20, 100, 0, 0, 50, 30, 0};

    private int wrong = 0;
    private int asked = 0;

    void due(String what, long got, long want) {
        asked++;
        if (got != want) {
            wrong++;
            System.out.println(what + ": answered " + got + ", due is " + want);
        }
    }

    void due(String what, boolean got, boolean want) {
        due(what, got ? 1L : 0L, want ? 1L : 0L);
    }

    void end() {
        System.out.println(asked + " answers, " + wrong + " not as due");
        if (wrong != 0) {
            System.exit(1);
        }
    }

    /** An object in the phase 0 .. 6, that got there in as few ticks as can be, without alarm, trip or stroke. */
    static BloodCircuitChannels inPhase(int phase, int[]... settings) {
        BloodCircuitChannels x = new BloodCircuitChannels();
        for (int[] setting : settings) {
            x.set(setting[0], setting[1]);
        }
        // The fluid is to be as the settings ask for, or no phase but the first could be reached.
        x.sense(2, x.parameter(4));
        x.sense(3, x.parameter(5));
        for (int from = 0; from < phase; from++) {
            leave(x);
        }
        if (x.phase() != phase) {
            throw new IllegalStateException("led to " + x.phase() + " instead of " + phase);
        }
        return x;
    }

    static BloodCircuitChannels inPhase(int phase, int volume, int minutes) {
        return inPhase(phase, new int[][] {{1, volume}, {2, 2000}, {3, minutes}});
    }

    /** Makes as many ticks as the phase asks for, and presses the key. */
    static void leave(BloodCircuitChannels x) {
        int ticks = TICKS_TO_LEAVE[x.phase()];
        if (ticks > 0) {
            x.tick(ticks);
        }
        x.next();
    }

    /** Makes the condition of the alarm hold; LEAK needs phase 3, ARTERIAL, VENOUS and AIR one of 2 .. 4. */
    static void raise(BloodCircuitChannels x, int alarm) {
        int[] row = RAISING[Integer.numberOfTrailingZeros(alarm)];
        x.sense(row[0], row[1]);
        x.tick(row[2]);
        if (x.alarms() != alarm) {
            throw new IllegalStateException("alarms " + x.alarms() + " instead of " + alarm);
        }
    }

    /** Gives each sensor the raw value that it had at first. */
    static void soothe(BloodCircuitChannels x) {
        for (int k = 0; k < GOOD.length; k++) {
            x.sense(k, GOOD[k]);
        }
    }
}
