/**
 * Promises 1 (a new object), 2 (set) and 3 (parameter). Above each test stands the sentence of the document that it
 * holds the class against.
 */
public final class ParametersTest {
    private static final int[][] RANGES = { // least, greatest, at first
        {50, 600, 300}, {0, 6000, 0}, {0, 2000, 1000}, {1, 600, 240}, {340, 390, 370},
        {1250, 1600, 1400}, {-400, 0, -200}, {-300, 200, 100}, {0, 200, 50}, {50, 500, 300},
    };
    private static final Checks CHECKS = new Checks();

    public static void main(String[] args) {
        newObject();
        newObjectIsNotSubstituted();
        newObjectsShareNothing();
        rangeOfEachParameter();
        noParameterToSet();
        noParameterToAnswer();
        inconsistentOnesAreTaken();
        setInPhase0Alone();
        setAgainAfterARound();
        CHECKS.end();
    }

    /** "PREPARING; no tick so far, no alarm stands, no condition holds, no outputs (0), ..., all counts 0." */
    private static void newObject() {
        BloodCircuitChannels x = new BloodCircuitChannels();
        for (int k = 0; k < RANGES.length; k++) {
            CHECKS.due("1: parameter(" + k + ")", x.parameter(k), RANGES[k][2]);
        }
        for (int k = 0; k < Checks.GOOD.length; k++) {
            CHECKS.due("1: conditioned(" + k + ")", x.conditioned(k), Checks.GOOD[k]);
            CHECKS.due("1: faulty(" + k + ")", x.faulty(k), false);
        }
        CHECKS.due("1: phase", x.phase(), 0);
        CHECKS.due("1: alarms", x.alarms(), 0);
        CHECKS.due("1: conditions", x.conditions(), 0);
        CHECKS.due("1: outputs", x.outputs(), 0);
        CHECKS.due("1: effective", x.effective(), 0);
        CHECKS.due("1: accounted", x.accounted(), 0);
        CHECKS.due("1: strokes", x.strokes(), 0);
        CHECKS.due("1: trips", x.trips(), 0);
        CHECKS.due("1: counted", x.counted(), 0);
        CHECKS.due("1: steady", x.steady(), 0);
        CHECKS.due("1: acknowledge", x.acknowledge(), 0);
        CHECKS.due("1: next", x.next(), -1);
        CHECKS.due("1: phase, after next was refused", x.phase(), 0);
    }

    /** "commands not substituted" */
    private static void newObjectIsNotSubstituted() {
        BloodCircuitChannels x = new BloodCircuitChannels();
        CHECKS.due("1: tick", x.tick(1), 1);
        CHECKS.due("1: the control channel's BYPASS", x.outputs(), 4);
        for (int k = 0; k < Checks.GOOD.length; k++) {
            CHECKS.due("1: raw value of " + k, x.conditioned(k), Checks.GOOD[k]);
        }
    }

    /** A new object is new whatever was done with another one. */
    private static void newObjectsShareNothing() {
        BloodCircuitChannels x = new BloodCircuitChannels();
        for (int k = 0; k < RANGES.length; k++) {
            x.set(k, RANGES[k][0]);
        }
        for (int k = 0; k < Checks.GOOD.length; k++) {
            x.sense(k, 1);
        }
        x.tick(5);
        newObject();
    }

    /** "0 FLOW 50 .. 600 (300); 1 VOLUME ... 9 V-HIGH 50 .. 500 (300)" and "v is not in its range" */
    private static void rangeOfEachParameter() {
        for (int k = 0; k < RANGES.length; k++) {
            BloodCircuitChannels x = new BloodCircuitChannels();
            int least = RANGES[k][0];
            int greatest = RANGES[k][1];
            int[] outside = {least - 1, greatest + 1, Integer.MIN_VALUE, Integer.MAX_VALUE};
            int[] inside = {least, least + 1, greatest - 1, greatest};
            for (int v : outside) {
                CHECKS.due("2: set(" + k + ", " + v + ")", x.set(k, v), false);
                CHECKS.due("3: unchanged " + k, x.parameter(k), RANGES[k][2]);
            }
            for (int v : inside) {
                CHECKS.due("2: set(" + k + ", " + v + ")", x.set(k, v), true);
                CHECKS.due("3: parameter(" + k + ")", x.parameter(k), v);
                CHECKS.due("2: set below " + k, x.set(k, least - 1), false);
                CHECKS.due("2: set above " + k, x.set(k, greatest + 1), false);
                CHECKS.due("3: still parameter(" + k + ")", x.parameter(k), v);
            }
            for (int other = 0; other < RANGES.length; other++) {
                if (other != k) {
                    CHECKS.due("3: other " + other, x.parameter(other), RANGES[other][2]);
                }
            }
        }
    }

    /** "false when there is no parameter k" */
    private static void noParameterToSet() {
        int[] none = {-1, 10, 11, Integer.MIN_VALUE, Integer.MAX_VALUE};
        int[] values = {0, 1, 50, 100, 300, 370, 1400, Integer.MIN_VALUE, Integer.MAX_VALUE};
        for (int k : none) {
            BloodCircuitChannels x = new BloodCircuitChannels();
            for (int v : values) {
                CHECKS.due("2: set(" + k + ", " + v + ")", x.set(k, v), false);
            }
            for (int other = 0; other < RANGES.length; other++) {
                CHECKS.due("3: other " + other, x.parameter(other), RANGES[other][2]);
            }
        }
        BloodCircuitChannels x = new BloodCircuitChannels();
        CHECKS.due("2: the first there is", x.set(0, 51), true);
        CHECKS.due("2: the last there is", x.set(9, 51), true);
    }

    /** "Parameter k; 0 when there is none." */
    private static void noParameterToAnswer() {
        BloodCircuitChannels x = new BloodCircuitChannels();
        int[] none = {-1, 10, 11, Integer.MIN_VALUE, Integer.MAX_VALUE};
        for (int k : none) {
            CHECKS.due("3: parameter(" + k + ")", x.parameter(k), 0);
        }
        CHECKS.due("3: the first there is", x.parameter(0), 300);
        CHECKS.due("3: the last there is", x.parameter(9), 300);
    }

    /** "Answers true (whether they are consistent then or not)" */
    private static void inconsistentOnesAreTaken() {
        int[][] rows = { // k, v, then k with a value that is just consistent and one that just is not
            {6, 0, 7, 20, 19}, {7, -300, 6, -320, -319}, {8, 200, 9, 220, 219}, {9, 50, 8, 30, 31},
            {2, 1000, 1, 4000, 4001}, {1, 4000, 2, 1000, 999}, {1, 4000, 3, 240, 239},
        };
        for (int[] row : rows) {
            BloodCircuitChannels x = new BloodCircuitChannels();
            CHECKS.due("2: set(" + row[0] + ", " + row[1] + ")", x.set(row[0], row[1]), true);
            for (int c = 3; c <= 4; c++) {
                CHECKS.due("2: set(" + row[2] + ", " + row[c] + ")", x.set(row[2], row[c]), true);
                CHECKS.due("3: parameter(" + row[2] + ")", x.parameter(row[2]), row[c]);
            }
        }
        BloodCircuitChannels x = new BloodCircuitChannels();
        int[][] inconsistent = {{6, 0}, {7, -300}, {8, 200}, {9, 50}, {1, 6000}, {2, 0}, {3, 1}};
        for (int[] row : inconsistent) {
            CHECKS.due("2: set(" + row[0] + ", " + row[1] + ") among others", x.set(row[0], row[1]), true);
            CHECKS.due("3: parameter(" + row[0] + ") among others", x.parameter(row[0]), row[1]);
        }
    }

    /** "or the phase is not 0" */
    private static void setInPhase0Alone() {
        for (int phase = 0; phase <= 6; phase++) {
            for (int k = 0; k < RANGES.length; k++) {
                BloodCircuitChannels x = Checks.inPhase(phase);
                int v = RANGES[k][1];
                CHECKS.due("2: set " + k + " in phase " + phase, x.set(k, v), phase == 0);
                CHECKS.due("3: " + k + " in phase " + phase, x.parameter(k), phase == 0 ? v : RANGES[k][2]);
                CHECKS.due("2: set " + k + " as it is in phase " + phase, x.set(k, RANGES[k][2]), phase == 0);
            }
        }
    }

    /** "(from 6 to 0)" and "parameters ... stay": what was set holds in the next round, and may be set anew. */
    private static void setAgainAfterARound() {
        BloodCircuitChannels x = Checks.inPhase(6, 33, 1);
        CHECKS.due("2: in phase 6", x.set(0, 100), false);
        CHECKS.due("7: to 0", x.next(), 0);
        CHECKS.due("3: VOLUME stays", x.parameter(1), 33);
        CHECKS.due("3: RATE stays", x.parameter(2), 2000);
        CHECKS.due("3: MINUTES stays", x.parameter(3), 1);
        CHECKS.due("2: in phase 0 again", x.set(0, 100), true);
        CHECKS.due("3: set again", x.parameter(0), 100);
    }
}
