/**
 * Promises 4 (sense), 5 (conditioned), 6 (faulty) and 20 (steady). Above each test stands the sentence of the document
 * that it holds the class against.
 */
public final class SensorsTest {
    private static final int[][] PLAUSIBLE = { // least, greatest
        {-700, 500}, {-200, 800}, {0, 600}, {0, 3000}, {0, 1}, {0, 1},
    };
    private static final int[] NO_SENSORS = {-1, 6, 7, Integer.MIN_VALUE, Integer.MAX_VALUE};
    private static final Checks CHECKS = new Checks();

    public static void main(String[] args) {
        plausibleOnesAreTaken();
        implausibleOnesAreNot();
        rawValueStays();
        lookedAtByTheNextTick();
        anyIntIsSensed();
        sensedInAllPhases();
        noSensorToSense();
        noSensorToAnswer();
        noSensorIsFaulty();
        faultyFromTheThirdTick();
        faultyInARow();
        faultyOneByOne();
        notFaultyFromAPlausibleTickOn();
        steadyWithinTheLimits();
        steadyByTheParametersOfEachTick();
        steadyByConditionedValues();
        steadyInARow();
        steadyInAllPhases();
        CHECKS.end();
    }

    /** "when the raw value is plausible, it becomes the conditioned one" */
    private static void plausibleOnesAreTaken() {
        for (int k = 0; k < PLAUSIBLE.length; k++) {
            for (int v : PLAUSIBLE[k]) {
                BloodCircuitChannels x = new BloodCircuitChannels();
                x.sense(k, v);
                CHECKS.due("10: sensor " + k + " at " + v, x.tick(5), 5);
                CHECKS.due("5: sensor " + k + " at " + v, x.conditioned(k), v);
                CHECKS.due("6: sensor " + k + " at " + v, x.faulty(k), false);
                for (int other = 0; other < PLAUSIBLE.length; other++) {
                    if (other != k) {
                        CHECKS.due("5: other " + other, x.conditioned(other), Checks.GOOD[other]);
                    }
                }
            }
        }
    }

    /** "otherwise the conditioned one stays" */
    private static void implausibleOnesAreNot() {
        for (int k = 0; k < PLAUSIBLE.length; k++) {
            int[] wrong = {PLAUSIBLE[k][0] - 1, PLAUSIBLE[k][1] + 1, Integer.MIN_VALUE, Integer.MAX_VALUE};
            for (int v : wrong) {
                BloodCircuitChannels x = new BloodCircuitChannels();
                x.sense(k, v);
                x.tick(1);
                CHECKS.due("5: stays as at first, " + k + " at " + v, x.conditioned(k), Checks.GOOD[k]);
                x.sense(k, PLAUSIBLE[k][1]);
                x.tick(1);
                x.sense(k, v);
                CHECKS.due("10: the third tick raises, " + k + " at " + v, x.tick(5), 3);
                x.tick(5);
                CHECKS.due("5: stays as taken last, " + k + " at " + v, x.conditioned(k), PLAUSIBLE[k][1]);
                CHECKS.due("6: sensor " + k + " at " + v, x.faulty(k), true);
            }
        }
    }

    /** "A raw value stays until another one is given." */
    private static void rawValueStays() {
        for (int k = 0; k < PLAUSIBLE.length; k++) {
            BloodCircuitChannels x = new BloodCircuitChannels();
            x.sense(k, PLAUSIBLE[k][1]);
            x.tick(1);
            x.tick(50);
            CHECKS.due("4: stays " + k, x.conditioned(k), PLAUSIBLE[k][1]);
            x.sense(k, PLAUSIBLE[k][1] + 1);
            x.sense(k, PLAUSIBLE[k][0]);
            x.tick(1);
            CHECKS.due("4: the one given last " + k, x.conditioned(k), PLAUSIBLE[k][0]);
            // An implausible raw value stays too: it makes the sensor faulty in three calls.
            x.sense(k, PLAUSIBLE[k][0] - 1);
            x.tick(1);
            x.tick(1);
            x.tick(1);
            CHECKS.due("4: stays implausible " + k, x.faulty(k), true);
        }
    }

    /** "(any int; it is looked at by the next tick)" */
    private static void lookedAtByTheNextTick() {
        for (int k = 0; k < PLAUSIBLE.length; k++) {
            BloodCircuitChannels x = new BloodCircuitChannels();
            x.tick(1);
            x.sense(k, PLAUSIBLE[k][1]);
            CHECKS.due("5: before the tick " + k, x.conditioned(k), Checks.GOOD[k]);
            x.tick(1);
            CHECKS.due("5: after the tick " + k, x.conditioned(k), PLAUSIBLE[k][1]);
        }
    }

    /** "The raw value of sensor k becomes v (any int; ..." and "Answers whether there is a sensor k." */
    private static void anyIntIsSensed() {
        for (int k = 0; k < PLAUSIBLE.length; k++) {
            int least = PLAUSIBLE[k][0];
            int greatest = PLAUSIBLE[k][1];
            int[] values = {Integer.MIN_VALUE, least - 1, least, 0, greatest, greatest + 1, Integer.MAX_VALUE};
            for (int v : values) {
                CHECKS.due("4: sense(" + k + ", " + v + ")", new BloodCircuitChannels().sense(k, v), true);
            }
        }
    }

    /** "Answers whether there is a sensor k.": in every phase */
    private static void sensedInAllPhases() {
        for (int phase = 0; phase <= 6; phase++) {
            for (int k = 0; k < PLAUSIBLE.length; k++) {
                BloodCircuitChannels x = Checks.inPhase(phase);
                CHECKS.due("4: sense " + k + " in phase " + phase, x.sense(k, PLAUSIBLE[k][1]), true);
                x.tick(1);
                CHECKS.due("5: sensed " + k + " in phase " + phase, x.conditioned(k), PLAUSIBLE[k][1]);
            }
        }
    }

    /** "Answers whether there is a sensor k." */
    private static void noSensorToSense() {
        for (int k : NO_SENSORS) {
            BloodCircuitChannels x = new BloodCircuitChannels();
            CHECKS.due("4: sense(" + k + ")", x.sense(k, 1), false);
            CHECKS.due("4: sense(" + k + ") any int", x.sense(k, Integer.MIN_VALUE), false);
            CHECKS.due("10: no sensor is faulty by that", x.tick(5), 5);
            for (int other = 0; other < PLAUSIBLE.length; other++) {
                CHECKS.due("5: other " + other, x.conditioned(other), Checks.GOOD[other]);
            }
        }
        CHECKS.due("4: the first there is", new BloodCircuitChannels().sense(0, 1), true);
        CHECKS.due("4: the last there is", new BloodCircuitChannels().sense(5, 1), true);
    }

    /** "The conditioned value of sensor k; 0 when there is none." */
    private static void noSensorToAnswer() {
        BloodCircuitChannels x = new BloodCircuitChannels();
        for (int k = 0; k < PLAUSIBLE.length; k++) {
            x.sense(k, 1);
        }
        x.tick(1);
        for (int k : NO_SENSORS) {
            CHECKS.due("5: conditioned(" + k + ")", x.conditioned(k), 0);
        }
        CHECKS.due("5: the first there is", x.conditioned(0), 1);
        CHECKS.due("5: the last there is", x.conditioned(5), 1);
    }

    /** "Whether sensor k is faulty.": one that is not there is not. */
    private static void noSensorIsFaulty() {
        BloodCircuitChannels x = new BloodCircuitChannels();
        for (int k = 0; k < PLAUSIBLE.length; k++) {
            x.sense(k, 9999);
        }
        x.tick(3);
        for (int k : NO_SENSORS) {
            CHECKS.due("6: faulty(" + k + ")", x.faulty(k), false);
        }
        CHECKS.due("6: the first there is", x.faulty(0), true);
        CHECKS.due("6: the last there is", x.faulty(5), true);
    }

    /** "the sensor is faulty from the third tick in a row on in which that is so" */
    private static void faultyFromTheThirdTick() {
        for (int k = 0; k < PLAUSIBLE.length; k++) {
            BloodCircuitChannels x = new BloodCircuitChannels();
            x.sense(k, PLAUSIBLE[k][1] + 1);
            CHECKS.due("6: not before a tick " + k, x.faulty(k), false);
            for (int tick = 1; tick <= 5; tick++) {
                x.tick(1);
                CHECKS.due("6: tick " + tick + " of sensor " + k, x.faulty(k), tick >= 3);
            }
            x.tick(600);
            CHECKS.due("6: on from there " + k, x.faulty(k), true);
        }
    }

    /** "in a row": a plausible tick between begins the row anew, another implausible value does not. */
    private static void faultyInARow() {
        for (int k = 0; k < PLAUSIBLE.length; k++) {
            BloodCircuitChannels x = new BloodCircuitChannels();
            x.sense(k, PLAUSIBLE[k][1] + 1);
            x.tick(2);
            x.sense(k, PLAUSIBLE[k][1]);
            x.tick(1);
            x.sense(k, PLAUSIBLE[k][1] + 1);
            x.tick(2);
            CHECKS.due("6: four of five ticks, sensor " + k, x.faulty(k), false);
            x.sense(k, PLAUSIBLE[k][0] - 1);
            x.tick(1);
            CHECKS.due("6: three in a row, sensor " + k, x.faulty(k), true);
        }
    }

    /** "Each sensor: ... the sensor is faulty": each has a row of its own. */
    private static void faultyOneByOne() {
        for (int k = 0; k < PLAUSIBLE.length; k++) {
            int next = (k + 1) % PLAUSIBLE.length;
            BloodCircuitChannels x = new BloodCircuitChannels();
            x.sense(k, 9999);
            x.tick(2);
            x.sense(k, Checks.GOOD[k]);
            x.sense(next, 9999);
            x.tick(2);
            CHECKS.due("12: two ticks of " + k + ", two of " + next, x.alarms(), 0);
            x.tick(1);
            for (int other = 0; other < PLAUSIBLE.length; other++) {
                CHECKS.due("6: " + next + " alone, not " + other, x.faulty(other), other == next);
            }
        }
    }

    /** "when the raw value is plausible, it becomes the conditioned one, and the sensor is not faulty" */
    private static void notFaultyFromAPlausibleTickOn() {
        for (int k = 0; k < PLAUSIBLE.length; k++) {
            for (int v : PLAUSIBLE[k]) {
                BloodCircuitChannels x = new BloodCircuitChannels();
                x.sense(k, 9999);
                x.tick(3);
                x.sense(k, v);
                CHECKS.due("6: until the next tick " + k, x.faulty(k), true);
                x.tick(1);
                CHECKS.due("6: no more " + k, x.faulty(k), false);
                CHECKS.due("5: follows again " + k, x.conditioned(k), v);
                CHECKS.due("13: no condition " + k, x.conditions() & 32, 0);
                x.sense(k, 9999);
                x.tick(2);
                CHECKS.due("6: the row begins anew " + k, x.faulty(k), false);
            }
        }
    }

    /** "the temperature differed by more than 5 from TEMPERATURE or the conductivity by more than 40 from ..." */
    private static void steadyWithinTheLimits() {
        int[][] asked = {{340, 1250}, {370, 1400}, {390, 1600}};
        int[][] rows = { // sensor, difference, whether the fluid is off by it
            {2, -5, 0}, {2, -6, 1}, {2, 5, 0}, {2, 6, 1}, {3, -40, 0}, {3, -41, 1}, {3, 40, 0}, {3, 41, 1},
        };
        for (int[] pair : asked) {
            for (int[] row : rows) {
                BloodCircuitChannels x = Checks.inPhase(0, new int[][] {{4, pair[0]}, {5, pair[1]}});
                x.tick(3);
                x.sense(row[0], pair[row[0] - 2] + row[1]);
                x.tick(4);
                String what = "20: sensor " + row[0] + " differs by " + row[1] + " from " + pair[row[0] - 2];
                CHECKS.due(what, x.steady(), row[2] == 1 ? 0 : 7);
            }
        }
        int[][] far = {{2, 0}, {2, 600}, {3, 0}, {3, 3000}};
        for (int[] row : far) {
            BloodCircuitChannels x = new BloodCircuitChannels();
            x.sense(row[0], row[1]);
            x.tick(1);
            CHECKS.due("20: sensor " + row[0] + " at " + row[1], x.steady(), 0);
        }
        BloodCircuitChannels x = new BloodCircuitChannels();
        x.sense(2, 375);
        x.sense(3, 1360);
        x.tick(1);
        CHECKS.due("20: both at a limit", x.steady(), 1);
        x.sense(2, 376);
        x.sense(3, 1359);
        x.tick(1);
        CHECKS.due("20: both beyond", x.steady(), 0);
    }

    /** "The CONDITIONS ... in this tick": a set changes nothing of the ticks that were made before it. */
    private static void steadyByTheParametersOfEachTick() {
        BloodCircuitChannels x = new BloodCircuitChannels();
        x.tick(3);
        x.set(4, 376);
        CHECKS.due("20: of the ticks made", x.steady(), 3);
        x.tick(1);
        CHECKS.due("20: off by TEMPERATURE now", x.steady(), 0);
        x.set(4, 375);
        CHECKS.due("20: the last tick was off", x.steady(), 0);
        x.tick(1);
        CHECKS.due("20: one tick", x.steady(), 1);
        x.set(5, 1441);
        x.tick(1);
        CHECKS.due("20: off by CONDUCTIVITY now", x.steady(), 0);
        x.set(5, 1440);
        x.tick(1);
        CHECKS.due("20: within both", x.steady(), 1);
    }

    /** "(conditioned values; a count of ticks includes this one)" */
    private static void steadyByConditionedValues() {
        int[][] rows = {{2, 600, 601}, {2, 0, -1}, {3, 3000, 3001}, {3, 0, -1}}; // sensor, off, implausible
        for (int[] row : rows) {
            BloodCircuitChannels x = new BloodCircuitChannels();
            x.sense(row[0], row[2]);
            x.tick(2);
            CHECKS.due("20: implausible is not off", x.steady(), 2);
            x.sense(row[0], row[1]);
            x.tick(1);
            CHECKS.due("20: off", x.steady(), 0);
            x.sense(row[0], row[2]);
            x.tick(2);
            CHECKS.due("20: stays off", x.steady(), 0);
        }
    }

    /** "For how many ticks in a row, up to and with the last one, the fluid was not off." */
    private static void steadyInARow() {
        BloodCircuitChannels x = new BloodCircuitChannels();
        CHECKS.due("20: no tick", x.steady(), 0);
        x.tick(1);
        CHECKS.due("20: one tick", x.steady(), 1);
        x.tick(600);
        CHECKS.due("20: 601 ticks", x.steady(), 601);
        x.sense(2, 376);
        CHECKS.due("20: not before the tick", x.steady(), 601);
        x.tick(1);
        CHECKS.due("20: the last one was off", x.steady(), 0);
        x.sense(2, 370);
        x.tick(1);
        CHECKS.due("20: up to and with the last one", x.steady(), 1);
        x.tick(1);
        CHECKS.due("20: two in a row", x.steady(), 2);
    }

    /** "For how many ticks in a row": whatever the phase. */
    private static void steadyInAllPhases() {
        int[] ticksBefore = {0, 20, 120, 120, 120, 170, 200};
        for (int phase = 0; phase <= 6; phase++) {
            BloodCircuitChannels x = Checks.inPhase(phase);
            CHECKS.due("20: phase " + phase + " begins", x.steady(), ticksBefore[phase]);
            x.tick(7);
            CHECKS.due("20: in phase " + phase, x.steady(), ticksBefore[phase] + 7);
            x.sense(3, 1441);
            x.tick(1);
            CHECKS.due("20: off in phase " + phase, x.steady(), 0);
        }
    }
}
