/** Promises 4 (sense), 5 (conditioned), 6 (faulty) and 20 (steady). */
public final class SensorsTest {
    private static final int[][] PLAUSIBLE = { // least, greatest, at first
        {-700, 500, 0}, {-200, 800, 100}, {0, 600, 370}, {0, 3000, 1400}, {0, 1, 0}, {0, 1, 0},
    };
    private static final Checks CHECKS = new Checks();

    public static void main(String[] args) {
        plausibleEdges();
        implausibleValues();
        faultyFromTheThirdTickInARow();
        noSuchSensor();
        steadyEdges();
        steadyLooksAtConditionedValues();
        steadyInAllPhases();
        CHECKS.end();
    }

    private static void plausibleEdges() {
        for (int k = 0; k < PLAUSIBLE.length; k++) {
            for (int edge = 0; edge < 2; edge++) {
                BloodCircuitChannels x = new BloodCircuitChannels();
                int v = PLAUSIBLE[k][edge];
                CHECKS.due("4: sense " + k, x.sense(k, v), true);
                CHECKS.due("5: before the tick " + k, x.conditioned(k), PLAUSIBLE[k][2]);
                x.tick(1);
                CHECKS.due("5: after the tick " + k, x.conditioned(k), v);
                x.tick(5);
                CHECKS.due("4: stays " + k, x.conditioned(k), v);
                CHECKS.due("6: plausible " + k, x.faulty(k), false);
                for (int other = 0; other < PLAUSIBLE.length; other++) {
                    if (other != k) {
                        CHECKS.due("5: other " + other, x.conditioned(other), PLAUSIBLE[other][2]);
                    }
                }
            }
        }
    }

    private static void implausibleValues() {
        for (int k = 0; k < PLAUSIBLE.length; k++) {
            int[] wrong = {PLAUSIBLE[k][0] - 1, PLAUSIBLE[k][1] + 1, Integer.MIN_VALUE, Integer.MAX_VALUE};
            for (int v : wrong) {
                BloodCircuitChannels x = new BloodCircuitChannels();
                CHECKS.due("4: sense any int " + k, x.sense(k, v), true);
                CHECKS.due("10: third tick raises", x.tick(5), 3);
                CHECKS.due("5: stays " + k, x.conditioned(k), PLAUSIBLE[k][2]);
                CHECKS.due("6: " + k + " at " + v, x.faulty(k), true);
                for (int other = 0; other < PLAUSIBLE.length; other++) {
                    CHECKS.due("6: only " + k + ", not " + other, x.faulty(other), other == k);
                }
            }
        }
    }

    private static void faultyFromTheThirdTickInARow() {
        BloodCircuitChannels x = new BloodCircuitChannels();
        x.sense(0, 900);
        x.tick(2);
        CHECKS.due("6: two ticks", x.faulty(0), false);
        x.sense(0, 10);
        x.tick(1);
        x.sense(0, 900);
        x.tick(2);
        CHECKS.due("6: not in a row", x.faulty(0), false);
        x.sense(0, -900);
        CHECKS.due("6: not before the tick", x.faulty(0), false);
        x.tick(1);
        CHECKS.due("6: in a row by another value", x.faulty(0), true);
        CHECKS.due("5: last plausible one", x.conditioned(0), 10);
        x.tick(100);
        CHECKS.due("6: on from there", x.faulty(0), true);
        x.sense(0, 11);
        CHECKS.due("6: until the next tick", x.faulty(0), true);
        x.tick(1);
        CHECKS.due("6: no more", x.faulty(0), false);
        CHECKS.due("5: follows again", x.conditioned(0), 11);
        CHECKS.due("13: no condition", x.conditions(), 0);
        CHECKS.due("12: stands", x.alarms(), 32);
    }

    private static void noSuchSensor() {
        BloodCircuitChannels x = new BloodCircuitChannels();
        int[] none = {-1, 6, 7, Integer.MIN_VALUE, Integer.MAX_VALUE};
        for (int k : none) {
            CHECKS.due("4: sense " + k, x.sense(k, 1), false);
            CHECKS.due("5: conditioned " + k, x.conditioned(k), 0);
            CHECKS.due("6: faulty " + k, x.faulty(k), false);
        }
    }

    private static void steadyEdges() {
        int[][] values = { // sensor, raw value, whether the fluid is off by it
            {2, 365, 0}, {2, 364, 1}, {2, 375, 0}, {2, 376, 1}, {2, 0, 1}, {2, 600, 1},
            {3, 1360, 0}, {3, 1359, 1}, {3, 1440, 0}, {3, 1441, 1}, {3, 0, 1}, {3, 3000, 1},
        };
        for (int[] row : values) {
            BloodCircuitChannels x = new BloodCircuitChannels();
            x.tick(3);
            x.sense(row[0], row[1]);
            x.tick(4);
            CHECKS.due("20: sensor " + row[0] + " at " + row[1], x.steady(), row[2] == 1 ? 0 : 7);
            x.sense(2, 370);
            x.sense(3, 1400);
            x.tick(2);
            CHECKS.due("20: two ticks later", x.steady(), row[2] == 1 ? 2 : 9);
        }
        BloodCircuitChannels x = new BloodCircuitChannels();
        x.tick(3);
        x.set(4, 376);
        CHECKS.due("20: of the ticks made", x.steady(), 3);
        x.tick(1);
        CHECKS.due("20: by the parameter now", x.steady(), 0);
        x.set(4, 375);
        x.set(5, 1441);
        x.tick(1);
        CHECKS.due("20: by CONDUCTIVITY", x.steady(), 0);
        x.set(5, 1440);
        x.tick(1);
        CHECKS.due("20: within both", x.steady(), 1);
    }

    private static void steadyLooksAtConditionedValues() {
        int[][] rows = {{2, 600, 601}, {3, 3000, 3001}}; // sensor, a plausible value that is off, an implausible one
        for (int[] row : rows) {
            BloodCircuitChannels x = new BloodCircuitChannels();
            x.sense(row[0], row[2]);
            x.tick(2);
            CHECKS.due("20: implausible is not off", x.steady(), 2);
            x.sense(row[0], row[1]);
            x.tick(1);
            CHECKS.due("20: off", x.steady(), 0);
            x.sense(row[0], row[2]);
            x.tick(2);
            CHECKS.due("20: stays off", x.steady(), 0);
        }
    }

    private static void steadyInAllPhases() {
        BloodCircuitChannels x = Checks.inPhase(3);
        x.tick(30);
        CHECKS.due("20: in phase 3", x.steady(), 150);
        x.next();
        x.tick(600);
        CHECKS.due("20: in phase 4", x.steady(), 750);
    }
}
