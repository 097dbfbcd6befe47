/** Promises 1 (a new object), 2 (set) and 3 (parameter). */
public final class ParametersTest {
    private static final int[][] RANGES = { // least, greatest, at first
        {50, 600, 300}, {0, 6000, 0}, {0, 2000, 1000}, {1, 600, 240}, {340, 390, 370},
        {1250, 1600, 1400}, {-400, 0, -200}, {-300, 200, 100}, {0, 200, 50}, {50, 500, 300},
    };
    private static final int[] SENSORS_AT_FIRST = {0, 100, 370, 1400, 0, 0};
    private static final Checks CHECKS = new Checks();

    public static void main(String[] args) {
        newObject();
        ranges();
        noSuchParameter();
        inconsistentIsTaken();
        onlyInPreparing();
        CHECKS.end();
    }

    private static void newObject() {
        BloodCircuitChannels x = new BloodCircuitChannels();
        for (int k = 0; k < RANGES.length; k++) {
            CHECKS.due("1: parameter(" + k + ")", x.parameter(k), RANGES[k][2]);
        }
        for (int k = 0; k < SENSORS_AT_FIRST.length; k++) {
            CHECKS.due("1: conditioned(" + k + ")", x.conditioned(k), SENSORS_AT_FIRST[k]);
            CHECKS.due("1: faulty(" + k + ")", x.faulty(k), false);
        }
        CHECKS.due("1: phase", x.phase(), 0);
        CHECKS.due("1: alarms", x.alarms(), 0);
        CHECKS.due("1: conditions", x.conditions(), 0);
        CHECKS.due("1: outputs", x.outputs(), 0);
        CHECKS.due("1: effective", x.effective(), 0);
        CHECKS.due("1: accounted", x.accounted(), 0);
        CHECKS.due("1: strokes", x.strokes(), 0);
        CHECKS.due("1: trips", x.trips(), 0);
        CHECKS.due("1: counted", x.counted(), 0);
        CHECKS.due("1: steady", x.steady(), 0);
        CHECKS.due("1: acknowledge", x.acknowledge(), 0);
        CHECKS.due("1: next", x.next(), -1);
        CHECKS.due("1: tick", x.tick(1), 1);
        CHECKS.due("1: outputs, not substituted", x.outputs(), 4);
        for (int k = 0; k < SENSORS_AT_FIRST.length; k++) {
            CHECKS.due("1: raw value of " + k, x.conditioned(k), SENSORS_AT_FIRST[k]);
        }
        x.set(0, 500);
        x.sense(2, 380);
        CHECKS.due("1: objects share no parameter", new BloodCircuitChannels().parameter(0), 300);
        CHECKS.due("1: objects share no sensor", new BloodCircuitChannels().conditioned(2), 370);
    }

    private static void ranges() {
        for (int k = 0; k < RANGES.length; k++) {
            BloodCircuitChannels x = new BloodCircuitChannels();
            int least = RANGES[k][0];
            int greatest = RANGES[k][1];
            CHECKS.due("2: set " + k + " below", x.set(k, least - 1), false);
            CHECKS.due("2: set " + k + " above", x.set(k, greatest + 1), false);
            CHECKS.due("2: set " + k + " far below", x.set(k, Integer.MIN_VALUE), false);
            CHECKS.due("2: set " + k + " far above", x.set(k, Integer.MAX_VALUE), false);
            CHECKS.due("3: unchanged " + k, x.parameter(k), RANGES[k][2]);
            CHECKS.due("2: set " + k + " least", x.set(k, least), true);
            CHECKS.due("3: least " + k, x.parameter(k), least);
            CHECKS.due("2: set " + k + " greatest", x.set(k, greatest), true);
            CHECKS.due("3: greatest " + k, x.parameter(k), greatest);
            for (int other = 0; other < RANGES.length; other++) {
                if (other != k) {
                    CHECKS.due("3: other " + other, x.parameter(other), RANGES[other][2]);
                }
            }
        }
    }

    private static void noSuchParameter() {
        BloodCircuitChannels x = new BloodCircuitChannels();
        int[] none = {-1, 10, 11, Integer.MIN_VALUE, Integer.MAX_VALUE};
        for (int k : none) {
            CHECKS.due("2: set " + k, x.set(k, 100), false);
            CHECKS.due("3: parameter " + k, x.parameter(k), 0);
        }
    }

    private static void inconsistentIsTaken() {
        BloodCircuitChannels x = new BloodCircuitChannels();
        CHECKS.due("2: V-LOW over V-HIGH", x.set(8, 200), true);
        CHECKS.due("2: V-HIGH under V-LOW", x.set(9, 50), true);
        CHECKS.due("2: too much volume", x.set(1, 6000), true);
        CHECKS.due("3: V-HIGH", x.parameter(9), 50);
        CHECKS.due("3: VOLUME", x.parameter(1), 6000);
    }

    private static void onlyInPreparing() {
        for (int phase = 1; phase <= 5; phase++) {
            BloodCircuitChannels x = Checks.inPhase(phase);
            CHECKS.due("2: set in phase " + phase, x.set(0, 100), false);
            CHECKS.due("3: unchanged in phase " + phase, x.parameter(0), 300);
        }
        BloodCircuitChannels x = Checks.inPhase(5);
        x.tick(30);
        CHECKS.due("7: to 6", x.next(), 6);
        CHECKS.due("2: set in phase 6", x.set(0, 100), false);
        CHECKS.due("7: to 0", x.next(), 0);
        CHECKS.due("3: parameters stay", x.parameter(2), 2000);
        CHECKS.due("2: set in phase 0 again", x.set(0, 100), true);
        CHECKS.due("3: set again", x.parameter(0), 100);
    }
}
