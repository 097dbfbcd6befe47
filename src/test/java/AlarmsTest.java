/** Promises 10 (tick), 12 (alarms) and 13 (conditions). */
public final class AlarmsTest {
    private static final Checks CHECKS = new Checks();

    public static void main(String[] args) {
        refusedTicks();
        pressureEdges();
        pressureInARow();
        pressureByPhase();
        conditionsLookAtConditionedValues();
        airAndLeakByPhase();
        fluidAfter600();
        fluidNotInARow();
        sensorInAllPhases();
        tickEndsByNewAlarmsAlone();
        tickEndsByPhase();
        twoAlarmsAtOnce();
        CHECKS.end();
    }

    private static void refusedTicks() {
        BloodCircuitChannels x = new BloodCircuitChannels();
        int[] wrong = {0, -1, 601, Integer.MIN_VALUE, Integer.MAX_VALUE};
        for (int n : wrong) {
            CHECKS.due("10: tick " + n, x.tick(n), -1);
            CHECKS.due("20: none made", x.steady(), 0);
            CHECKS.due("14: none made", x.outputs(), 0);
        }
        CHECKS.due("10: least", x.tick(1), 1);
        CHECKS.due("10: greatest", x.tick(600), 600);
        CHECKS.due("20: all made", x.steady(), 601);
    }

    private static void pressureEdges() {
        int[][] rows = { // sensor, value, alarm
            {0, -200, 0}, {0, -201, 1}, {0, 100, 0}, {0, 101, 1}, {0, -700, 1}, {0, 500, 1},
            {1, 50, 0}, {1, 49, 2}, {1, 300, 0}, {1, 301, 2}, {1, -200, 2}, {1, 800, 2},
        };
        for (int[] row : rows) {
            BloodCircuitChannels x = Checks.inPhase(2);
            x.sense(row[0], row[1]);
            String what = "12: sensor " + row[0] + " at " + row[1];
            CHECKS.due(what + ", 29 ticks", x.tick(29), 29);
            CHECKS.due(what + ", 29", x.alarms(), 0);
            CHECKS.due(what + ", 30 ticks", x.tick(2), row[2] == 0 ? 2 : 1);
            CHECKS.due(what + ", 30", x.alarms(), row[2]);
            CHECKS.due("13: " + what, x.conditions(), row[2]);
        }
    }

    private static void pressureInARow() {
        BloodCircuitChannels x = Checks.inPhase(3);
        x.sense(1, 20);
        x.tick(29);
        x.sense(1, 60);
        x.tick(1);
        x.sense(1, 400);
        x.tick(15);
        x.sense(1, 20);
        CHECKS.due("10: below and above in a row", x.tick(50), 15);
        CHECKS.due("12: VENOUS", x.alarms(), 2);
        x.sense(1, 60);
        x.tick(1);
        CHECKS.due("13: no more", x.conditions(), 0);
        CHECKS.due("12: stands", x.alarms(), 2);
        x.sense(1, 900);
        x.tick(2);
        CHECKS.due("13: the conditioned one stays", x.conditions(), 0);
        x.acknowledge();
        x.sense(1, 20);
        x.tick(1);
        x.sense(1, 900);
        CHECKS.due("10: SENSOR first", x.tick(50), 3);
        CHECKS.due("10: VENOUS by the conditioned one", x.tick(50), 26);
        CHECKS.due("12: VENOUS, SENSOR", x.alarms(), 34);
    }

    private static void pressureByPhase() {
        BloodCircuitChannels x = new BloodCircuitChannels();
        x.sense(0, 200);
        x.tick(100);
        CHECKS.due("13: phase 0", x.conditions(), 0);
        x.next();
        x.tick(100);
        CHECKS.due("13: phase 1", x.conditions(), 0);
        x.next();
        x.tick(10);
        CHECKS.due("7: to 3", x.next(), 3);
        x.tick(10);
        CHECKS.due("7: to 4", x.next(), 4);
        CHECKS.due("10: 30 ticks over three phases", x.tick(50), 10);
        CHECKS.due("12: ARTERIAL", x.alarms(), 1);
        x.substitute(1);
        x.tick(50);
        CHECKS.due("7: to 5", x.next(), 5);
        x.tick(1);
        CHECKS.due("13: phase 5", x.conditions(), 0);
        CHECKS.due("12: stands in 5", x.alarms(), 1);
        CHECKS.due("8: acknowledged in 5", x.acknowledge(), 0);
    }

    private static void conditionsLookAtConditionedValues() {
        int[][] rows = { // sensor, a plausible value with its alarm, the ticks it takes then, an implausible value
            {0, -300, 1, 30, 501}, {1, 400, 2, 30, -201}, {4, 1, 4, 1, 2}, {5, 1, 8, 1, -1},
        };
        for (int[] row : rows) {
            BloodCircuitChannels x = Checks.inPhase(3);
            x.sense(row[0], row[1]);
            x.tick(row[3]);
            x.sense(row[0], row[4]);
            x.tick(2);
            CHECKS.due("13: the last plausible value of " + row[0] + " holds on", x.conditions(), row[2]);
            x = Checks.inPhase(3);
            x.sense(row[0], row[4]);
            x.tick(40);
            x.tick(40);
            CHECKS.due("13: an implausible value of " + row[0] + " is SENSOR alone", x.conditions(), 32);
        }
    }

    private static void airAndLeakByPhase() {
        for (int phase = 1; phase <= 5; phase++) {
            BloodCircuitChannels x = Checks.inPhase(phase);
            x.sense(4, 1);
            x.sense(5, 1);
            x.tick(1);
            int want = phase == 3 ? 12 : phase == 2 || phase == 4 ? 4 : 0;
            CHECKS.due("13: air and leak in " + phase, x.conditions(), want);
            CHECKS.due("12: air and leak in " + phase, x.alarms(), want);
        }
        BloodCircuitChannels x = new BloodCircuitChannels();
        x.sense(4, 1);
        x.sense(5, 1);
        x.tick(20);
        CHECKS.due("12: air and leak in 0", x.alarms(), 0);
        x = Checks.inPhase(3);
        x.sense(4, 2);
        x.sense(5, 2);
        x.tick(2);
        CHECKS.due("12: implausible ones are no AIR, no LEAK", x.alarms(), 0);
        CHECKS.due("18: but the raw air trips", x.trips(), 2);
    }

    private static void fluidAfter600() {
        BloodCircuitChannels x = new BloodCircuitChannels();
        x.sense(3, 1441);
        CHECKS.due("10: 599", x.tick(599), 599);
        CHECKS.due("12: 599", x.alarms(), 0);
        CHECKS.due("10: 600th", x.tick(5), 1);
        CHECKS.due("12: FLUID", x.alarms(), 16);
        CHECKS.due("8: holds", x.acknowledge(), 16);
        CHECKS.due("10: stands already", x.tick(600), 600);
        x.sense(3, 1440);
        x.tick(1);
        CHECKS.due("13: no more", x.conditions(), 0);
        CHECKS.due("8: no more", x.acknowledge(), 0);
    }

    private static void fluidNotInARow() {
        BloodCircuitChannels x = new BloodCircuitChannels();
        x.sense(2, 364);
        x.tick(599);
        x.sense(2, 365);
        x.tick(1);
        x.sense(2, 376);
        x.tick(300);
        x.sense(2, 370);
        x.sense(3, 1359);
        CHECKS.due("10: off by one or the other", x.tick(600), 300);
        CHECKS.due("12: FLUID", x.alarms(), 16);
        x = Checks.inPhase(3);
        x.sense(2, 364);
        x.tick(600);
        CHECKS.due("12: FLUID in 3", x.alarms(), 16);
        CHECKS.due("14: FLUID does not stop", x.outputs(), 7);
    }

    private static void sensorInAllPhases() {
        for (int k = 0; k < 6; k++) {
            for (int phase = 1; phase <= 5; phase++) {
                BloodCircuitChannels x = Checks.inPhase(phase);
                x.sense(k, 5000);
                CHECKS.due("10: third tick", x.tick(600), 3);
                CHECKS.due("13: SENSOR " + k + " in " + phase, x.conditions(), 32);
                CHECKS.due("12: SENSOR " + k + " in " + phase, x.alarms(), 32);
            }
        }
    }

    private static void tickEndsByNewAlarmsAlone() {
        BloodCircuitChannels x = Checks.inPhase(3);
        x.sense(4, 1);
        CHECKS.due("10: raised", x.tick(10), 1);
        CHECKS.due("10: stands", x.tick(10), 10);
        x.sense(4, 0);
        CHECKS.due("10: holds no more", x.tick(10), 10);
        x.sense(4, 1);
        CHECKS.due("10: holds again, stood before", x.tick(10), 10);
        x.sense(4, 0);
        x.tick(1);
        x.acknowledge();
        x.sense(4, 1);
        CHECKS.due("10: raised again", x.tick(10), 1);
        x.sense(5, 1);
        CHECKS.due("10: another one", x.tick(10), 1);
        CHECKS.due("12: both", x.alarms(), 12);
    }

    private static void tickEndsByPhase() {
        BloodCircuitChannels x = Checks.inPhase(3, 0, 1);
        CHECKS.due("10: 598", x.tick(598), 598);
        CHECKS.due("11: 598", x.phase(), 3);
        CHECKS.due("10: phase changes", x.tick(600), 2);
        CHECKS.due("11: 600", x.phase(), 4);
        CHECKS.due("14: outputs are of phase 3", x.outputs(), 3);
        CHECKS.due("19: 4 begins", x.counted(), 0);
        CHECKS.due("10: goes on in 4", x.tick(600), 600);
        CHECKS.due("15: no more in 4", x.effective(), 600);
    }

    private static void twoAlarmsAtOnce() {
        BloodCircuitChannels x = Checks.inPhase(2);
        x.sense(0, -201);
        x.sense(1, 301);
        CHECKS.due("10: both at once", x.tick(600), 30);
        CHECKS.due("12: both at once", x.alarms(), 3);
    }
}
