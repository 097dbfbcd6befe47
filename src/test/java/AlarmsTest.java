/**
 * Promises 10 (tick), 12 (alarms) and 13 (conditions). Above each test stands the sentence of the document that it
 * holds the class against.
 */
public final class AlarmsTest {
    private static final Checks CHECKS = new Checks();

    public static void main(String[] args) {
        numberOfTicks();
        tickEndsByEachNewAlarm();
        tickEndsNotByAStandingAlarm();
        tickEndsByThePhase();
        tickEndsByTheAlarmFirst();
        arterialLimits();
        venousLimits();
        pressureFor30Ticks();
        pressureInEachOfThem();
        pressureInPhases2To4();
        pressureBeforePhase2();
        pressureOverThePhases();
        pressureAfterPhase4();
        pressureByConditionedValues();
        airByPhase();
        leakByPhase();
        airAndLeakByConditionedValues();
        fluidFor600Ticks();
        fluidInEachOfThem();
        fluidByTheParametersOfEachTick();
        fluidInAllPhases();
        fluidOverThePhases();
        sensorInAllPhases();
        alarmsStand();
        alarmsRaisedAgain();
        conditionsOfTheLastTick();
        allAlarmsAtOnce();
        CHECKS.end();
    }

    /** "Makes n ticks ... Answers how many were made; -1 when n is not 1 .. 600." */
    private static void numberOfTicks() {
        int[] wrong = {0, -1, 601, Integer.MIN_VALUE, Integer.MAX_VALUE};
        for (int n : wrong) {
            BloodCircuitChannels x = new BloodCircuitChannels();
            CHECKS.due("10: tick(" + n + ")", x.tick(n), -1);
            CHECKS.due("20: none made", x.steady(), 0);
            CHECKS.due("14: none made", x.outputs(), 0);
        }
        int[] right = {1, 2, 599, 600};
        for (int n : right) {
            BloodCircuitChannels x = new BloodCircuitChannels();
            CHECKS.due("10: tick(" + n + ")", x.tick(n), n);
            CHECKS.due("20: all made", x.steady(), n);
        }
    }

    /** "it ends after a tick in which an alarm was raised that did not stand before" */
    private static void tickEndsByEachNewAlarm() {
        int[][] rows = { // sensor, value, the tick that raises, alarm
            {0, -300, 30, 1}, {1, 400, 30, 2}, {4, 1, 1, 4}, {5, 1, 1, 8}, {3, 1300, 600, 16}, {5, -1, 3, 32},
        };
        for (int[] row : rows) {
            BloodCircuitChannels x = Checks.inPhase(3);
            x.sense(row[0], row[1]);
            CHECKS.due("10: ended by " + row[3], x.tick(600), row[2]);
            CHECKS.due("12: raised " + row[3], x.alarms(), row[3]);
            x = Checks.inPhase(3);
            x.sense(row[0], row[1]);
            CHECKS.due("10: as many as asked for, the last one raises " + row[3], x.tick(row[2]), row[2]);
            CHECKS.due("12: raised by the last one " + row[3], x.alarms(), row[3]);
            if (row[2] > 1) {
                x = Checks.inPhase(3);
                x.sense(row[0], row[1]);
                CHECKS.due("10: one fewer does not raise " + row[3], x.tick(row[2] - 1), row[2] - 1);
                CHECKS.due("12: not raised " + row[3], x.alarms(), 0);
            }
        }
    }

    /** "an alarm was raised that did not stand before": one that stands ends nothing, another one does. */
    private static void tickEndsNotByAStandingAlarm() {
        BloodCircuitChannels x = Checks.inPhase(3);
        x.sense(4, 1);
        CHECKS.due("10: raised", x.tick(10), 1);
        CHECKS.due("10: stands, its condition holds", x.tick(10), 10);
        x.sense(4, 0);
        CHECKS.due("10: stands, its condition holds no more", x.tick(10), 10);
        x.sense(4, 1);
        CHECKS.due("10: stands, its condition holds again", x.tick(10), 10);
        x.sense(4, 0);
        x.tick(1);
        x.acknowledge();
        x.sense(4, 1);
        CHECKS.due("10: raised again", x.tick(10), 1);
        x.sense(5, 1);
        CHECKS.due("10: another one beside it", x.tick(10), 1);
        CHECKS.due("12: both", x.alarms(), 12);
    }

    /** "or in which the phase changed" */
    private static void tickEndsByThePhase() {
        BloodCircuitChannels x = Checks.inPhase(3, 0, 1);
        CHECKS.due("10: 599", x.tick(599), 599);
        CHECKS.due("11: 599", x.phase(), 3);
        CHECKS.due("10: the 600th changes the phase", x.tick(600), 1);
        CHECKS.due("11: 600", x.phase(), 4);
        CHECKS.due("10: nothing changes in 4", x.tick(600), 600);
        x = Checks.inPhase(3, 0, 1);
        CHECKS.due("10: as many as asked for, the last one changes the phase", x.tick(600), 600);
        CHECKS.due("11: changed by the last one", x.phase(), 4);
    }

    /** "an alarm was raised ..., or in which the phase changed": none does both. */
    private static void tickEndsByTheAlarmFirst() {
        BloodCircuitChannels x = Checks.inPhase(3, 0, 1);
        x.tick(570);
        x.sense(0, -201);
        // ARTERIAL takes PUMP away in its tick: the 30th tick is not effective any more.
        CHECKS.due("10: ARTERIAL first", x.tick(600), 30);
        CHECKS.due("11: not ended", x.phase(), 3);
        CHECKS.due("15: not ended", x.effective(), 599);
        x.sense(0, 0);
        x.tick(1);
        x.acknowledge();
        CHECKS.due("10: then the phase", x.tick(600), 1);
        CHECKS.due("11: ended", x.phase(), 4);
    }

    private static void pressure(int[][] settings, int sensor, int value, int alarm) {
        for (int phase = 2; phase <= 3; phase++) {
            BloodCircuitChannels x = Checks.inPhase(phase, settings);
            // The other pressure is to stay out of it, whatever the settings.
            x.sense(1 - sensor, sensor == 0 ? x.parameter(8) : x.parameter(7));
            x.sense(sensor, value);
            x.tick(30);
            CHECKS.due("13: sensor " + sensor + " at " + value, x.conditions(), alarm);
            CHECKS.due("12: sensor " + sensor + " at " + value, x.alarms(), alarm);
        }
    }

    /** "the arterial pressure less than A-LOW or greater than A-HIGH" */
    private static void arterialLimits() {
        int[][] limits = {{-200, 100}, {-400, -300}, {-400, 200}, {0, 20}, {0, 200}, {-20, 0}};
        for (int[] pair : limits) {
            int[][] settings = {{6, pair[0]}, {7, pair[1]}};
            pressure(settings, 0, pair[0], 0);
            pressure(settings, 0, pair[0] - 1, 1);
            pressure(settings, 0, pair[1], 0);
            pressure(settings, 0, pair[1] + 1, 1);
            pressure(settings, 0, -700, 1);
            pressure(settings, 0, 500, 1);
        }
    }

    /** "likewise with the venous pressure, V-LOW and V-HIGH" */
    private static void venousLimits() {
        int[][] limits = {{50, 300}, {0, 50}, {0, 500}, {200, 220}, {200, 500}};
        for (int[] pair : limits) {
            int[][] settings = {{8, pair[0]}, {9, pair[1]}};
            pressure(settings, 1, pair[0], 0);
            pressure(settings, 1, pair[0] - 1, 2);
            pressure(settings, 1, pair[1], 0);
            pressure(settings, 1, pair[1] + 1, 2);
            pressure(settings, 1, -200, 2);
            pressure(settings, 1, 800, 2);
        }
    }

    /** "in each of the last 30 ticks" and "(conditioned values; a count of ticks includes this one)" */
    private static void pressureFor30Ticks() {
        int[][] rows = {{0, -201, 1}, {0, 101, 1}, {1, 49, 2}, {1, 301, 2}};
        for (int[] row : rows) {
            BloodCircuitChannels x = Checks.inPhase(2);
            x.sense(row[0], row[1]);
            String what = "sensor " + row[0] + " at " + row[1];
            CHECKS.due("10: " + what, x.tick(29), 29);
            CHECKS.due("13: 29 ticks, " + what, x.conditions(), 0);
            CHECKS.due("12: 29 ticks, " + what, x.alarms(), 0);
            CHECKS.due("10: 30 ticks, " + what, x.tick(600), 1);
            CHECKS.due("13: 30 ticks, " + what, x.conditions(), row[2]);
            CHECKS.due("12: 30 ticks, " + what, x.alarms(), row[2]);
            x.tick(1);
            CHECKS.due("13: 31 ticks, " + what, x.conditions(), row[2]);
        }
    }

    /** "in each of the last 30 ticks": one within the limits among them is enough; below and above are both out. */
    private static void pressureInEachOfThem() {
        int[][] rows = {{0, -201, 101, 0, 1}, {1, 49, 301, 100, 2}}; // sensor, below, above, within, alarm
        for (int[] row : rows) {
            BloodCircuitChannels x = Checks.inPhase(3);
            x.sense(row[0], row[1]);
            x.tick(29);
            x.sense(row[0], row[3]);
            x.tick(1);
            x.sense(row[0], row[2]);
            x.tick(15);
            x.sense(row[0], row[1]);
            CHECKS.due("10: 29 after the one within", x.tick(14), 14);
            CHECKS.due("13: 58 of 59", x.conditions(), 0);
            CHECKS.due("10: 30 after the one within", x.tick(600), 1);
            CHECKS.due("12: raised", x.alarms(), row[4]);
            x.sense(row[0], row[3]);
            x.tick(1);
            CHECKS.due("13: the last one is within", x.conditions(), 0);
            x.sense(row[0], row[2]);
            x.tick(29);
            CHECKS.due("13: 29 again", x.conditions(), 0);
            x.tick(1);
            CHECKS.due("13: 30 again", x.conditions(), row[4]);
        }
    }

    /** "the phase was 2 .. 4" */
    private static void pressureInPhases2To4() {
        for (int phase = 0; phase <= 6; phase++) {
            BloodCircuitChannels x = Checks.inPhase(phase);
            x.sense(0, -201);
            x.sense(1, 301);
            boolean connected = phase >= 2 && phase <= 4;
            CHECKS.due("10: both in phase " + phase, x.tick(100), connected ? 30 : 100);
            CHECKS.due("13: both in phase " + phase, x.conditions(), connected ? 3 : 0);
            CHECKS.due("12: both in phase " + phase, x.alarms(), connected ? 3 : 0);
        }
    }

    /** "in each of the last 30 ticks the phase was 2 .. 4": the ticks of phase 1 are none of them. */
    private static void pressureBeforePhase2() {
        BloodCircuitChannels x = Checks.inPhase(1);
        x.sense(0, 101);
        x.sense(1, 49);
        x.tick(100);
        x.next();
        x.tick(29);
        CHECKS.due("13: 29 in 2", x.conditions(), 0);
        x.tick(1);
        CHECKS.due("13: 30 in 2", x.conditions(), 3);
    }

    /** "the phase was 2 .. 4": the phase may change among them. */
    private static void pressureOverThePhases() {
        BloodCircuitChannels x = Checks.inPhase(2);
        x.sense(0, 101);
        x.sense(1, 49);
        x.tick(10);
        x.next();
        x.tick(10);
        x.next();
        x.tick(9);
        CHECKS.due("13: 29 over 2, 3 and 4", x.conditions(), 0);
        x.tick(1);
        CHECKS.due("13: 30 over 2, 3 and 4", x.conditions(), 3);
    }

    /** "in each of the last 30 ticks the phase was 2 .. 4": no more with the first tick of phase 5. */
    private static void pressureAfterPhase4() {
        for (int ticks = 29; ticks <= 30; ticks++) {
            BloodCircuitChannels x = Checks.inPhase(4);
            x.tick(50);
            x.sense(0, -201);
            x.sense(1, 301);
            x.tick(ticks);
            CHECKS.due("13: " + ticks + " in 4", x.conditions(), ticks == 30 ? 3 : 0);
            x.next();
            CHECKS.due("13: of the last tick", x.conditions(), ticks == 30 ? 3 : 0);
            x.tick(1);
            CHECKS.due("13: in 5", x.conditions(), 0);
            CHECKS.due("12: in 5", x.alarms(), ticks == 30 ? 3 : 0);
        }
    }

    /** "(conditioned values; ...)": an implausible raw value leaves the pressure as it was. */
    private static void pressureByConditionedValues() {
        int[][] rows = { // sensor, a value that is out, a value that is within, two that are not plausible, alarm
            {0, -300, 0, 501, -701, 1}, {1, 400, 100, -201, 801, 2},
        };
        for (int[] row : rows) {
            for (int c = 3; c <= 4; c++) {
                BloodCircuitChannels x = Checks.inPhase(3);
                x.sense(row[0], row[1]);
                x.tick(1);
                x.sense(row[0], row[c]);
                CHECKS.due("10: SENSOR first", x.tick(600), 3);
                CHECKS.due("10: out in 29 ticks", x.tick(25), 25);
                CHECKS.due("13: out in 29 ticks", x.conditions(), 32);
                CHECKS.due("10: out in 30 ticks", x.tick(600), 1);
                CHECKS.due("13: out in 30 ticks", x.conditions(), 32 + row[5]);
                x = Checks.inPhase(3);
                x.sense(row[0], row[2]);
                x.tick(1);
                x.sense(row[0], row[c]);
                x.tick(3);
                x.tick(100);
                CHECKS.due("13: within in all of them", x.conditions(), 32);
            }
        }
    }

    /** "AIR: the phase is 2 .. 4 and air is 1." */
    private static void airByPhase() {
        for (int phase = 0; phase <= 6; phase++) {
            BloodCircuitChannels x = Checks.inPhase(phase);
            x.sense(4, 0);
            x.tick(1);
            CHECKS.due("13: air 0 in " + phase, x.conditions(), 0);
            x.sense(4, 1);
            x.tick(1);
            int want = phase >= 2 && phase <= 4 ? 4 : 0;
            CHECKS.due("13: air 1 in " + phase, x.conditions(), want);
            CHECKS.due("12: air 1 in " + phase, x.alarms(), want);
            x.sense(4, 0);
            x.tick(1);
            CHECKS.due("13: air 0 again in " + phase, x.conditions(), 0);
        }
    }

    /** "LEAK: the phase is 3 and blood leak is 1." */
    private static void leakByPhase() {
        for (int phase = 0; phase <= 6; phase++) {
            BloodCircuitChannels x = Checks.inPhase(phase);
            x.sense(5, 0);
            x.tick(1);
            CHECKS.due("13: leak 0 in " + phase, x.conditions(), 0);
            x.sense(5, 1);
            x.tick(1);
            CHECKS.due("13: leak 1 in " + phase, x.conditions(), phase == 3 ? 8 : 0);
            CHECKS.due("12: leak 1 in " + phase, x.alarms(), phase == 3 ? 8 : 0);
            x.sense(5, 0);
            x.tick(1);
            CHECKS.due("13: leak 0 again in " + phase, x.conditions(), 0);
        }
    }

    /** "(conditioned values; ...)": 2 and -1 are no AIR and no LEAK, but what was there before goes on. */
    private static void airAndLeakByConditionedValues() {
        int[] values = {2, -1, Integer.MIN_VALUE, Integer.MAX_VALUE};
        for (int v : values) {
            BloodCircuitChannels x = Checks.inPhase(3);
            x.sense(4, v);
            x.sense(5, v);
            x.tick(2);
            CHECKS.due("13: " + v + " after 0", x.conditions(), 0);
            x.sense(4, 1);
            x.sense(5, 1);
            x.tick(1);
            x.sense(4, v);
            x.sense(5, v);
            x.tick(2);
            CHECKS.due("13: " + v + " after 1", x.conditions(), 12);
        }
    }

    /** "FLUID: in each of the last 600 ticks the fluid was OFF, that is, ... more than 5 ... more than 40" */
    private static void fluidFor600Ticks() {
        int[][] rows = { // sensor, value, alarm
            {2, 364, 16}, {2, 365, 0}, {2, 375, 0}, {2, 376, 16},
            {3, 1359, 16}, {3, 1360, 0}, {3, 1440, 0}, {3, 1441, 16},
        };
        for (int[] row : rows) {
            BloodCircuitChannels x = new BloodCircuitChannels();
            x.sense(row[0], row[1]);
            String what = "sensor " + row[0] + " at " + row[1];
            CHECKS.due("10: 599, " + what, x.tick(599), 599);
            CHECKS.due("13: 599, " + what, x.conditions(), 0);
            x.tick(1);
            CHECKS.due("13: 600, " + what, x.conditions(), row[2]);
            CHECKS.due("12: 600, " + what, x.alarms(), row[2]);
            CHECKS.due("10: stands already, " + what, x.tick(600), 600);
            CHECKS.due("13: 1200, " + what, x.conditions(), row[2]);
        }
    }

    /** "in each of the last 600 ticks": one that is not off is enough; off by one or by the other is both off. */
    private static void fluidInEachOfThem() {
        BloodCircuitChannels x = new BloodCircuitChannels();
        x.sense(2, 364);
        x.tick(599);
        x.sense(2, 365);
        x.tick(1);
        x.sense(2, 376);
        x.tick(300);
        x.sense(2, 370);
        x.sense(3, 1359);
        CHECKS.due("10: 599 after the one that was not off", x.tick(299), 299);
        CHECKS.due("13: 1198 of 1199", x.conditions(), 0);
        CHECKS.due("10: 600 after the one that was not off", x.tick(600), 1);
        CHECKS.due("12: raised", x.alarms(), 16);
        x.sense(3, 1360);
        x.tick(1);
        CHECKS.due("13: the last one was not off", x.conditions(), 0);
    }

    /** "in each of the last 600 ticks the fluid was OFF": as each of them was, whatever has been set since. */
    private static void fluidByTheParametersOfEachTick() {
        BloodCircuitChannels x = new BloodCircuitChannels();
        x.set(4, 376);
        x.tick(599);
        x.set(4, 375);
        x.tick(1);
        CHECKS.due("13: not off by TEMPERATURE now", x.conditions(), 0);
        x.set(5, 1441);
        x.tick(300);
        x.set(5, 1400);
        x.set(4, 364);
        x.tick(299);
        CHECKS.due("13: 599", x.conditions(), 0);
        x.tick(1);
        CHECKS.due("13: 600", x.conditions(), 16);
    }

    /** "FLUID: in each of the last 600 ticks": in any phase */
    private static void fluidInAllPhases() {
        for (int phase = 0; phase <= 6; phase++) {
            BloodCircuitChannels x = Checks.inPhase(phase);
            x.sense(2, 376);
            CHECKS.due("10: 599 in " + phase, x.tick(599), 599);
            CHECKS.due("13: 599 in " + phase, x.conditions(), 0);
            x.tick(1);
            CHECKS.due("13: 600 in " + phase, x.conditions(), 16);
            CHECKS.due("11: still in " + phase, x.phase(), phase);
        }
    }

    /** "in each of the last 600 ticks": the phase may change among them. */
    private static void fluidOverThePhases() {
        BloodCircuitChannels x = Checks.inPhase(1);
        x.sense(3, 1441);
        x.tick(200);
        x.next();
        x.tick(200);
        x.next();
        x.tick(199);
        CHECKS.due("13: 599 over 1, 2 and 3", x.conditions(), 0);
        CHECKS.due("11: in 3", x.phase(), 3);
        x.tick(1);
        CHECKS.due("13: 600 over 1, 2 and 3", x.conditions(), 16);
    }

    /** "SENSOR: some sensor is faulty." */
    private static void sensorInAllPhases() {
        for (int k = 0; k < 6; k++) {
            for (int phase = 0; phase <= 6; phase++) {
                BloodCircuitChannels x = Checks.inPhase(phase);
                x.sense(k, 5000);
                x.tick(2);
                CHECKS.due("13: two ticks of " + k + " in " + phase, x.conditions(), 0);
                CHECKS.due("10: the third tick", x.tick(600), 1);
                CHECKS.due("13: SENSOR " + k + " in " + phase, x.conditions(), 32);
                CHECKS.due("12: SENSOR " + k + " in " + phase, x.alarms(), 32);
            }
        }
        BloodCircuitChannels x = new BloodCircuitChannels();
        x.sense(0, 5000);
        x.sense(5, 5000);
        x.tick(3);
        x.sense(0, 0);
        x.tick(1);
        CHECKS.due("13: one of two is still faulty", x.conditions(), 32);
        x.sense(5, 0);
        x.tick(1);
        CHECKS.due("13: none is faulty", x.conditions(), 0);
    }

    /** "ALARMS, which STAND from when they are raised until they are acknowledged" */
    private static void alarmsStand() {
        for (int alarm : Checks.ALARMS) {
            BloodCircuitChannels x = Checks.inPhase(3);
            Checks.raise(x, alarm);
            Checks.soothe(x);
            x.tick(1);
            CHECKS.due("13: holds no more " + alarm, x.conditions(), 0);
            CHECKS.due("12: stands " + alarm, x.alarms(), alarm);
            x.tick(600);
            CHECKS.due("12: stands after 600 ticks " + alarm, x.alarms(), alarm);
            x.next();
            CHECKS.due("12: stands in 4 " + alarm, x.alarms(), alarm);
            x.acknowledge();
            CHECKS.due("12: acknowledged " + alarm, x.alarms(), 0);
        }
    }

    /** "Alarms whose condition holds are raised": after it was acknowledged just as the first time. */
    private static void alarmsRaisedAgain() {
        for (int alarm : Checks.ALARMS) {
            BloodCircuitChannels x = Checks.inPhase(3);
            for (int time = 0; time < 3; time++) {
                Checks.raise(x, alarm);
                CHECKS.due("13: holds " + alarm, x.conditions(), alarm);
                Checks.soothe(x);
                x.tick(1);
                CHECKS.due("8: acknowledged " + alarm, x.acknowledge(), 0);
            }
        }
    }

    /** "The sum of the alarms whose condition held in the last tick." */
    private static void conditionsOfTheLastTick() {
        BloodCircuitChannels x = Checks.inPhase(3);
        CHECKS.due("13: none", x.conditions(), 0);
        x.sense(4, 1);
        x.sense(5, 1);
        CHECKS.due("13: not before the tick", x.conditions(), 0);
        x.tick(1);
        CHECKS.due("13: both", x.conditions(), 12);
        x.acknowledge();
        CHECKS.due("13: after the key", x.conditions(), 12);
        x.sense(4, 0);
        CHECKS.due("13: until the tick", x.conditions(), 12);
        x.tick(1);
        CHECKS.due("13: one", x.conditions(), 8);
        x.next();
        CHECKS.due("13: in 4, before the tick", x.conditions(), 8);
        x.tick(1);
        CHECKS.due("13: in 4", x.conditions(), 0);
    }

    /** "The sum of the alarms that stand.": none of them and all of them */
    private static void allAlarmsAtOnce() {
        BloodCircuitChannels x = Checks.inPhase(3);
        CHECKS.due("12: none", x.alarms(), 0);
        x.sense(2, 376);
        x.tick(570);
        x.sense(0, -201);
        x.sense(1, 301);
        x.tick(27);
        x.sense(3, 3001);
        x.tick(2);
        CHECKS.due("12: still none", x.alarms(), 0);
        x.sense(4, 1);
        x.sense(5, 1);
        CHECKS.due("10: all in one tick", x.tick(600), 1);
        CHECKS.due("12: all", x.alarms(), 63);
        CHECKS.due("13: all", x.conditions(), 63);
        CHECKS.due("8: all", x.acknowledge(), 63);
        CHECKS.due("10: all stand", x.tick(600), 600);
        Checks.soothe(x);
        x.tick(1);
        CHECKS.due("13: none", x.conditions(), 0);
        CHECKS.due("8: none", x.acknowledge(), 0);
    }
}
