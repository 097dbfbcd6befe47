/** Long mixed runs, the same ones each time, against the model: all promises together. */
public final class ModelTest {
    private static final int RUNS = 600;
    private static final int CALLS = 512;
    private static final int MOST_CALLS_A_STEP = 7;
    private static final int[] GOOD = {0, 100, 370, 1400, 0, 0};
    private static final int[][] RAW_EDGES = {
        {-701, -700, -351, -350, -201, -200, 100, 101, 250, 251, 500, 501, Integer.MIN_VALUE, Integer.MAX_VALUE},
        {-201, -200, -51, -50, 49, 50, 300, 301, 450, 451, 800, 801, Integer.MIN_VALUE, Integer.MAX_VALUE},
        {-1, 0, 364, 365, 375, 376, 410, 411, 600, 601, Integer.MIN_VALUE, Integer.MAX_VALUE},
        {-1, 0, 1359, 1360, 1440, 1441, 3000, 3001, Integer.MIN_VALUE, Integer.MAX_VALUE},
        {-1, 0, 1, 1, 1, 2, Integer.MIN_VALUE, Integer.MAX_VALUE},
        {-1, 0, 1, 1, 1, 2, Integer.MIN_VALUE, Integer.MAX_VALUE},
    };
    private static final int[] TICKS = {-1, 0, 1, 1, 1, 2, 3, 9, 20, 29, 30, 31, 50, 99, 100, 300, 599, 600, 601};

    private final Checks checks = new Checks();
    private final int[] visits = new int[7];
    private final int[] raised = new int[6];
    private int endings = 0;
    private long seed = 20261115L;

    public static void main(String[] args) {
        ModelTest test = new ModelTest();
        for (int run = 1; run <= RUNS; run++) {
            test.mixedRun(run);
        }
        test.allWasVisited();
        test.checks.end();
    }

    /** Numbers that only look mixed, so that each run of the test is the same. */
    private int below(int bound) {
        seed = seed * 6364136223846793005L + 1442695040888963407L;
        return (int) ((seed >>> 33) % bound);
    }

    private void mixedRun(int run) {
        BloodCircuitChannels x = new BloodCircuitChannels();
        Model m = new Model();
        int calls = begin(x, m);
        boolean wild = run % 3 == 0;
        while (calls <= CALLS - MOST_CALLS_A_STEP) {
            int phaseBefore = m.phase;
            int alarmsBefore = m.alarms;
            calls += act(run, x, m, wild);
            calls += ask(run, x, m);
            visits[m.phase] += m.phase != phaseBefore ? 1 : 0;
            for (int a = 0; a < 6; a++) {
                raised[a] += (m.alarms & ~alarmsBefore & (1 << a)) != 0 ? 1 : 0;
            }
        }
    }

    private int begin(BloodCircuitChannels x, Model m) {
        int minutes = 1 + below(3);
        int volume = below(34 * minutes);
        int[][] rows = {{3, minutes}, {2, 2000}, {1, volume}};
        for (int[] row : rows) {
            x.set(row[0], row[1]);
            m.set(row[0], row[1]);
        }
        return rows.length;
    }

    private int act(int run, BloodCircuitChannels x, Model m, boolean wild) {
        int kind = below(100);
        if (kind < 40) {
            int n = TICKS[below(TICKS.length)];
            int phaseBefore = m.phase;
            int made = m.tick(n);
            endings += phaseBefore == 3 && m.phase == 4 ? 1 : 0;
            checks.due("run " + run + ": tick(" + n + ")", x.tick(n), made);
            return 1;
        }
        if (kind < 60) {
            // From 3 the key leads on at any time: seldom, or no treatment would come to its end.
            if (m.phase == 3 && below(10) > 0) {
                return 0;
            }
            checks.due("run " + run + ": next()", x.next(), m.next());
            return 1;
        }
        if (kind < 70) {
            checks.due("run " + run + ": acknowledge()", x.acknowledge(), m.acknowledge());
            return 1;
        }
        if (kind < 80) {
            return senseOne(run, x, m, wild);
        }
        if (kind < 92) {
            return senseGood(x, m);
        }
        if (kind < 95) {
            int commands = below(3) > 0 ? -1 : below(20) - 3;
            checks.due("run " + run + ": substitute(" + commands + ")", x.substitute(commands), m.substitute(commands));
            return 1;
        }
        return wild ? setOne(run, x, m) : 0;
    }

    private int senseOne(int run, BloodCircuitChannels x, Model m, boolean wild) {
        int k = below(8) - 1;
        int v = k >= 0 && k <= 5 ? RAW_EDGES[k][below(RAW_EDGES[k].length)] : 1;
        if (wild && k == 0) {
            v = m.parameter(6 + below(2)) + below(3) - 1;
        }
        if (wild && k == 1) {
            v = m.parameter(8 + below(2)) + below(3) - 1;
        }
        checks.due("run " + run + ": sense(" + k + ", " + v + ")", x.sense(k, v), m.sense(k, v));
        return 1;
    }

    private int senseGood(BloodCircuitChannels x, Model m) {
        int calls = 0;
        for (int k = 0; k < 6; k++) {
            int good = k == 2 ? m.parameter(4) : k == 3 ? m.parameter(5) : GOOD[k];
            if (m.raw[k] != good) {
                x.sense(k, good);
                m.sense(k, good);
                calls++;
            }
        }
        return calls;
    }

    private int setOne(int run, BloodCircuitChannels x, Model m) {
        int k = below(12) - 1;
        int[] near = {0, 300, 0, 2, 370, 1400, -200, 100, 50, 300, 0, 0};
        int v = k < 0 ? 0 : near[k] + below(121) - 60;
        if (k == 1) {
            v = below(70);
        }
        if (k == 2) {
            v = 1990 + below(12);
        }
        if (k == 3) {
            v = below(4);
        }
        checks.due("run " + run + ": set(" + k + ", " + v + ")", x.set(k, v), m.set(k, v));
        return 1;
    }

    private int ask(int run, BloodCircuitChannels x, Model m) {
        int k = below(8) - 1;
        String where = "run " + run + ": ";
        switch (below(14)) {
            case 0 -> checks.due(where + "conditioned(" + k + ")", x.conditioned(k), m.conditioned(k));
            case 1 -> checks.due(where + "faulty(" + k + ")", x.faulty(k), m.faulty(k));
            case 2 -> checks.due(where + "parameter(" + k + ")", x.parameter(k), m.parameter(k));
            case 3 -> checks.due(where + "phase()", x.phase(), m.phase);
            case 4 -> checks.due(where + "alarms()", x.alarms(), m.alarms);
            case 5 -> checks.due(where + "conditions()", x.conditions(), m.conditions());
            case 6 -> checks.due(where + "effective()", x.effective(), m.effective());
            case 7 -> checks.due(where + "accounted()", x.accounted(), m.accounted());
            case 8 -> checks.due(where + "strokes()", x.strokes(), m.strokes());
            case 9 -> checks.due(where + "trips()", x.trips(), m.trips());
            case 10 -> checks.due(where + "counted()", x.counted(), m.counted());
            case 11 -> checks.due(where + "steady()", x.steady(), m.steady());
            default -> checks.due(where + "outputs()", x.outputs(), m.outputs());
        }
        return 1;
    }

    /** Runs that never get far would agree about little. */
    private void allWasVisited() {
        for (int phase = 0; phase < visits.length; phase++) {
            System.out.println("phase " + phase + " began " + visits[phase] + " times");
            checks.due("phase " + phase + " was visited often", visits[phase] >= 100, true);
        }
        for (int a = 0; a < raised.length; a++) {
            System.out.println("alarm " + (1 << a) + " was raised " + raised[a] + " times");
            checks.due("alarm " + (1 << a) + " was raised often", raised[a] >= 100, true);
        }
        System.out.println(endings + " treatments ended by themselves");
        checks.due("treatments ended by themselves", endings >= 100, true);
    }
}
