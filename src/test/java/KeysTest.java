/** Promises 7 (next), 8 (acknowledge), 11 (phase) and 19 (counted). */
public final class KeysTest {
    private static final Checks CHECKS = new Checks();

    public static void main(String[] args) {
        wholeRound();
        fromPreparingByParameters();
        fromPreparingByFluid();
        fromPreparingByAlarm();
        fromPriming();
        fromConnecting();
        fromTreatingAndReturning();
        countsBeginAnew();
        secondTreatmentBeginsAnew();
        acknowledging();
        acknowledgingSomeOfThem();
        CHECKS.end();
    }

    private static void wholeRound() {
        BloodCircuitChannels x = new BloodCircuitChannels();
        int[] ticks = {20, 100, 0, 0, 50, 30, 0};
        for (int round = 0; round < 3; round++) {
            for (int phase = 0; phase <= 6; phase++) {
                CHECKS.due("11: phase", x.phase(), phase);
                CHECKS.due("19: begins with 0", x.counted(), 0);
                if (ticks[phase] > 0) {
                    x.tick(ticks[phase] - 1);
                    // In later rounds the fluid has long been steady when PREPARING begins.
                    if (phase > 0 || round == 0) {
                        CHECKS.due("7: one too few in " + phase, x.next(), -1);
                        CHECKS.due("11: refused in " + phase, x.phase(), phase);
                    }
                    x.tick(1);
                }
                boolean counts = phase == 1 || phase == 4 || phase == 5;
                CHECKS.due("19: in phase " + phase, x.counted(), counts ? ticks[phase] : 0);
                CHECKS.due("7: from " + phase, x.next(), (phase + 1) % 7);
            }
        }
    }

    private static void fromPreparingByParameters() {
        int[][] rows = { // k, v, k, v, whether they are consistent
            {6, 0, 7, 20, 1}, {6, 0, 7, 19, 0}, {6, -300, 7, -280, 1}, {6, -300, 7, -281, 0}, {6, -200, 7, -300, 0},
            {8, 200, 9, 220, 1}, {8, 200, 9, 219, 0}, {8, 30, 9, 50, 1}, {8, 31, 9, 50, 0},
            {1, 4000, 2, 1000, 1}, {1, 4001, 2, 1000, 0}, {1, 1, 2, 0, 0}, {1, 0, 2, 0, 1},
            {1, 6000, 2, 1500, 1}, {1, 6000, 2, 1499, 0}, {1, 16, 3, 1, 1}, {1, 17, 3, 1, 0},
        };
        for (int[] row : rows) {
            BloodCircuitChannels x = new BloodCircuitChannels();
            x.tick(20);
            x.set(row[0], row[1]);
            x.set(row[2], row[3]);
            String what = "7: " + row[0] + "=" + row[1] + ", " + row[2] + "=" + row[3];
            CHECKS.due(what, x.next(), row[4] == 1 ? 1 : -1);
            CHECKS.due(what + ", phase", x.phase(), row[4]);
        }
    }

    private static void fromPreparingByFluid() {
        BloodCircuitChannels x = new BloodCircuitChannels();
        x.tick(30);
        x.sense(2, 380);
        x.tick(1);
        x.sense(2, 370);
        x.tick(19);
        CHECKS.due("7: off 20 ticks ago", x.next(), -1);
        x.set(4, 380);
        x.tick(1);
        CHECKS.due("7: off by another TEMPERATURE", x.next(), -1);
        x.set(4, 370);
        x.tick(19);
        CHECKS.due("7: 19 ticks", x.next(), -1);
        x.tick(1);
        x.set(4, 340);
        CHECKS.due("7: the ticks that were count", x.next(), 1);
    }

    private static void fromPreparingByAlarm() {
        BloodCircuitChannels x = new BloodCircuitChannels();
        x.tick(20);
        x.sense(0, 501);
        x.tick(3);
        x.sense(0, 0);
        x.tick(20);
        CHECKS.due("12: SENSOR stands", x.alarms(), 32);
        CHECKS.due("7: with an alarm", x.next(), -1);
        CHECKS.due("8: acknowledged", x.acknowledge(), 0);
        CHECKS.due("7: without", x.next(), 1);
    }

    private static void fromPriming() {
        BloodCircuitChannels x = Checks.inPhase(1);
        x.tick(60);
        x.sense(0, 501);
        x.tick(3);
        CHECKS.due("19: the third tick has no PUMP", x.counted(), 62);
        x.sense(0, 0);
        x.tick(50);
        CHECKS.due("19: none while SENSOR stands", x.counted(), 62);
        CHECKS.due("7: too few with PUMP", x.next(), -1);
        x.substitute(1);
        x.tick(37);
        CHECKS.due("19: PUMP by substitution counts", x.counted(), 99);
        CHECKS.due("7: 99", x.next(), -1);
        x.tick(1);
        CHECKS.due("7: 100, though an alarm stands", x.next(), 2);
        CHECKS.due("12: alarms stay", x.alarms(), 32);
        CHECKS.due("7: from 2 with an alarm", x.next(), -1);
        x = Checks.inPhase(1);
        x.substitute(14);
        x.tick(150);
        CHECKS.due("19: no PUMP by substitution", x.counted(), 0);
    }

    private static void fromConnecting() {
        BloodCircuitChannels x = Checks.inPhase(2);
        x.sense(4, 1);
        x.tick(1);
        x.sense(4, 0);
        CHECKS.due("7: AIR stands", x.next(), -1);
        x.tick(1);
        CHECKS.due("7: AIR still stands", x.next(), -1);
        x.acknowledge();
        CHECKS.due("7: no alarm stands", x.next(), 3);
        CHECKS.due("19: in 3", x.counted(), 0);
    }

    private static void fromTreatingAndReturning() {
        BloodCircuitChannels x = Checks.inPhase(3);
        x.sense(4, 1);
        x.tick(1);
        CHECKS.due("7: from 3 with an alarm", x.next(), 4);
        x.tick(200);
        CHECKS.due("19: 4 without PUMP", x.counted(), 0);
        CHECKS.due("7: 4 without PUMP", x.next(), -1);
        x.substitute(15);
        x.tick(10);
        CHECKS.due("19: protective channel takes PUMP", x.counted(), 0);
        x.substitute(-1);
        x.sense(4, 0);
        x.tick(1);
        x.acknowledge();
        x.tick(49);
        CHECKS.due("7: 49", x.next(), -1);
        x.sense(1, 451);
        x.tick(1);
        CHECKS.due("7: tripped, still 49", x.next(), -1);
        x.sense(1, 100);
        x.tick(1);
        CHECKS.due("7: 50", x.next(), 5);
        x.sense(4, 1);
        x.sense(0, 900);
        x.substitute(0);
        CHECKS.due("10: SENSOR is raised", x.tick(29), 3);
        x.tick(26);
        CHECKS.due("19: every tick in 5", x.counted(), 29);
        CHECKS.due("7: 29 in 5", x.next(), -1);
        x.tick(1);
        CHECKS.due("7: 30 in 5", x.next(), 6);
        x.tick(7);
        CHECKS.due("19: in 6", x.counted(), 0);
        CHECKS.due("7: from 6 with an alarm", x.next(), 0);
        CHECKS.due("7: from 0 with an alarm", x.next(), -1);
    }

    private static void countsBeginAnew() {
        BloodCircuitChannels x = Checks.inPhase(4);
        x.tick(600);
        CHECKS.due("19: goes on", x.counted(), 600);
        x.next();
        CHECKS.due("19: 5 begins", x.counted(), 0);
        CHECKS.due("7: 5 begins", x.next(), -1);
    }

    private static void secondTreatmentBeginsAnew() {
        BloodCircuitChannels x = Checks.inPhase(3, 33, 1);
        x.tick(100);
        x.sense(4, 1);
        x.tick(1);
        x.sense(4, 0);
        x.tick(1);
        x.acknowledge();
        x.next();
        x.tick(50);
        x.next();
        x.tick(30);
        x.next();
        x.next();
        x.tick(20);
        x.next();
        x.tick(100);
        x.next();
        CHECKS.due("15: stays till 3", x.effective(), 100);
        CHECKS.due("16: stays till 3", x.accounted(), 5500);
        CHECKS.due("17: stays till 3", x.strokes(), 11);
        CHECKS.due("18: trips stay", x.trips(), 1);
        CHECKS.due("7: to 3", x.next(), 3);
        CHECKS.due("15: anew", x.effective(), 0);
        CHECKS.due("16: anew", x.accounted(), 0);
        CHECKS.due("17: anew", x.strokes(), 0);
        CHECKS.due("18: trips stay in 3", x.trips(), 1);
        CHECKS.due("10: whole treatment", x.tick(600), 600);
        CHECKS.due("11: ended", x.phase(), 4);
        CHECKS.due("17: whole volume", x.strokes(), 66);
    }

    private static void acknowledging() {
        BloodCircuitChannels x = Checks.inPhase(3);
        x.sense(5, 1);
        x.tick(1);
        CHECKS.due("8: condition holds", x.acknowledge(), 8);
        x.sense(5, 0);
        CHECKS.due("8: held in the last tick", x.acknowledge(), 8);
        x.tick(1);
        CHECKS.due("12: stands until acknowledged", x.alarms(), 8);
        CHECKS.due("8: no more", x.acknowledge(), 0);
        CHECKS.due("12: no more", x.alarms(), 0);
        CHECKS.due("14: outputs of the last tick", x.outputs(), 6);
        CHECKS.due("8: nothing left", x.acknowledge(), 0);
    }

    private static void acknowledgingSomeOfThem() {
        BloodCircuitChannels x = Checks.inPhase(3);
        x.sense(5, 1);
        x.sense(4, 1);
        x.tick(1);
        CHECKS.due("12: both", x.alarms(), 12);
        x.sense(5, 0);
        x.tick(1);
        CHECKS.due("13: one holds", x.conditions(), 4);
        CHECKS.due("8: one is left", x.acknowledge(), 4);
        CHECKS.due("13: conditions stay", x.conditions(), 4);
        x.sense(5, 1);
        x.next();
        x.tick(1);
        CHECKS.due("12: LEAK in 3 alone", x.alarms(), 4);
    }
}
