/**
 * "An object is used for at most 512 calls after it has been made": the greatest counts that these calls can reach
 * are answered as due. Each test here makes just 512 calls of an object, the last one being the question.
 */
public final class LimitTest {
    private static final int CALLS = 512;
    private static final Checks CHECKS = new Checks();

    public static void main(String[] args) {
        steadyForAllCalls();
        fluidOffForAllCalls();
        faultyForAllCalls();
        trippedForAllCalls();
        countedForAllCalls();
        longestTreatment();
        longestTreatmentThatDoesNotEnd();
        keysForAllCalls();
        CHECKS.end();
    }

    private static void ticksOf600(BloodCircuitChannels x, int calls) {
        for (int k = 0; k < calls; k++) {
            x.tick(600);
        }
    }

    private static void steadyForAllCalls() {
        BloodCircuitChannels x = new BloodCircuitChannels();
        ticksOf600(x, CALLS - 1);
        CHECKS.due("20: all ticks", x.steady(), 600 * (CALLS - 1));
    }

    private static void fluidOffForAllCalls() {
        BloodCircuitChannels x = new BloodCircuitChannels();
        x.sense(2, 0);
        ticksOf600(x, CALLS - 2);
        CHECKS.due("13: off in all ticks", x.conditions(), 16);
    }

    private static void faultyForAllCalls() {
        BloodCircuitChannels x = new BloodCircuitChannels();
        x.sense(5, Integer.MIN_VALUE);
        ticksOf600(x, CALLS - 2);
        CHECKS.due("6: implausible in all ticks", x.faulty(5), true);
    }

    private static void trippedForAllCalls() {
        BloodCircuitChannels x = new BloodCircuitChannels();
        x.tick(20);
        x.next();
        x.tick(100);
        x.next();
        x.sense(1, 451);
        ticksOf600(x, CALLS - 6);
        // The first of these calls ends with the 30th tick, in which VENOUS is raised.
        CHECKS.due("18: all ticks", x.trips(), 30 + 600 * (CALLS - 7));
    }

    private static void countedForAllCalls() {
        BloodCircuitChannels x = new BloodCircuitChannels();
        x.tick(20);
        x.next();
        ticksOf600(x, CALLS - 3);
        CHECKS.due("19: all ticks", x.counted(), 600 * (CALLS - 3));
    }

    private static BloodCircuitChannels treating(int volume, int minutes) {
        BloodCircuitChannels x = new BloodCircuitChannels();
        x.set(1, volume);
        x.set(2, 2000);
        x.set(3, minutes);
        x.tick(20);
        x.next();
        x.tick(100);
        x.next();
        x.next();
        return x;
    }

    /** 503 minutes: the longest treatment whose end comes within 512 calls. */
    private static void longestTreatment() {
        int minutes = CALLS - 9;
        BloodCircuitChannels x = treating(6000, minutes);
        ticksOf600(x, minutes);
        CHECKS.due("11: ended", x.phase(), 4);
        x = treating(6000, minutes);
        ticksOf600(x, minutes);
        CHECKS.due("15: all", x.effective(), 600 * minutes);
        x = treating(6000, minutes);
        ticksOf600(x, minutes);
        CHECKS.due("16: all", x.accounted(), 6000000);
        x = treating(6000, minutes);
        ticksOf600(x, minutes);
        CHECKS.due("17: all", x.strokes(), 12000);
        x = treating(6000, minutes + 1);
        ticksOf600(x, minutes);
        CHECKS.due("11: one minute longer", x.phase(), 3);
    }

    /** The greatest VOLUME and MINUTES: the products go far beyond the range of int. */
    private static void longestTreatmentThatDoesNotEnd() {
        int calls = CALLS - 9;
        BloodCircuitChannels x = treating(6000, 600);
        ticksOf600(x, calls);
        CHECKS.due("16: 10000 a minute", x.accounted(), 10000 * calls);
        x = treating(6000, 600);
        ticksOf600(x, calls);
        CHECKS.due("17: 20 a minute", x.strokes(), 20 * calls);
    }

    /** Round after round; a round has seven keys, and ticks in four of its phases. */
    private static void keysForAllCalls() {
        BloodCircuitChannels x = new BloodCircuitChannels();
        int[] ticks = {20, 100, 0, 0, 50, 30, 0};
        int phase = 0;
        int calls = 0;
        while (calls + 2 <= CALLS - 1) {
            if (ticks[phase] > 0) {
                CHECKS.due("10: in " + phase, x.tick(ticks[phase]), ticks[phase]);
                calls++;
            }
            CHECKS.due("7: from " + phase, x.next(), (phase + 1) % 7);
            calls++;
            phase = (phase + 1) % 7;
        }
        CHECKS.due("11: in the end", x.phase(), phase);
    }
}
