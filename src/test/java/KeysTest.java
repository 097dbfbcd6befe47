import java.util.Arrays;

/**
 * Promises 7 (next), 8 (acknowledge), 11 (phase) and 19 (counted). Above each test stands the sentence of the document
 * that it holds the class against.
 */
public final class KeysTest {
    private static final Checks CHECKS = new Checks();

    public static void main(String[] args) {
        wholeRounds();
        arterialLimitsConsistent();
        venousLimitsConsistent();
        volumeConsistent();
        allAtTheEdgeOfConsistent();
        twentyTicksMustHaveBeen();
        notOffInTheLast20();
        notOffByTheParametersOfEachTick();
        from0WithoutAlarm();
        from1After100();
        from2WithoutAlarm();
        from3Always();
        from4After50();
        from5After30();
        from6Always();
        refusedStaysInThePhase();
        nextLeavesTheRest();
        countBeginsWith0();
        phase3EndsByItself();
        treatingBeginsAnew();
        countedByPumpIn1And4();
        countedByEveryTickIn5();
        countedIs0InTheOtherPhases();
        acknowledgeBeforeAnything();
        acknowledgeByTheLastTick();
        acknowledgeSomeOfThem();
        acknowledgeAfterTheNextKey();
        CHECKS.end();
    }

    /** "The key that leads on to the next phase (from 6 to 0). Answers the new phase" */
    private static void wholeRounds() {
        BloodCircuitChannels x = new BloodCircuitChannels();
        int[] ticks = {20, 100, 0, 0, 50, 30, 0};
        for (int round = 0; round < 3; round++) {
            for (int phase = 0; phase <= 6; phase++) {
                CHECKS.due("11: phase", x.phase(), phase);
                if (ticks[phase] > 0) {
                    x.tick(ticks[phase]);
                }
                CHECKS.due("7: from " + phase, x.next(), phase == 6 ? 0 : phase + 1);
            }
        }
    }

    private static void nextBySettings(int[][] settings, boolean consistent) {
        BloodCircuitChannels x = new BloodCircuitChannels();
        x.tick(20);
        StringBuilder what = new StringBuilder("7:");
        for (int[] setting : settings) {
            x.set(setting[0], setting[1]);
            what.append(" set(").append(setting[0]).append(", ").append(setting[1]).append(")");
        }
        CHECKS.due(what.toString(), x.next(), consistent ? 1 : -1);
        CHECKS.due("11: phase", x.phase(), consistent ? 1 : 0);
    }

    /** "A-LOW + 20 is at most A-HIGH" */
    private static void arterialLimitsConsistent() {
        int[][] consistent = {{0, 20}, {-20, 0}, {-200, -180}, {-320, -300}, {-400, -300}, {-400, 200}, {0, 200}};
        int[][] not = {{0, 19}, {-19, 0}, {-200, -181}, {-319, -300}, {0, 0}, {-200, -200}, {0, -300}};
        for (int[] row : consistent) {
            nextBySettings(new int[][] {{6, row[0]}, {7, row[1]}}, true);
        }
        for (int[] row : not) {
            nextBySettings(new int[][] {{6, row[0]}, {7, row[1]}}, false);
        }
    }

    /** "V-LOW + 20 is at most V-HIGH" */
    private static void venousLimitsConsistent() {
        int[][] consistent = {{30, 50}, {50, 70}, {200, 220}, {0, 50}, {0, 500}, {200, 500}};
        int[][] not = {{31, 50}, {50, 69}, {200, 219}, {50, 50}, {200, 200}, {200, 50}};
        for (int[] row : consistent) {
            nextBySettings(new int[][] {{8, row[0]}, {9, row[1]}}, true);
        }
        for (int[] row : not) {
            nextBySettings(new int[][] {{8, row[0]}, {9, row[1]}}, false);
        }
    }

    /** "60 * VOLUME is at most RATE * MINUTES" */
    private static void volumeConsistent() {
        int[][] consistent = {
            {0, 0, 1}, {1, 60, 1}, {1, 1, 60}, {33, 2000, 1}, {100, 2000, 3}, {4000, 1000, 240}, {6000, 2000, 180},
            {6000, 600, 600}, {6000, 2000, 600}, {0, 0, 600}, {0, 2000, 1},
        };
        int[][] not = {
            {1, 0, 600}, {1, 59, 1}, {1, 1, 59}, {34, 2000, 1}, {101, 2000, 3}, {4001, 1000, 240}, {4000, 999, 240},
            {4000, 1000, 239}, {6000, 2000, 179}, {6000, 1999, 180}, {6000, 599, 600}, {6000, 0, 1}, {1, 0, 1},
        };
        for (int[] row : consistent) {
            nextBySettings(new int[][] {{1, row[0]}, {2, row[1]}, {3, row[2]}}, true);
        }
        for (int[] row : not) {
            nextBySettings(new int[][] {{1, row[0]}, {2, row[1]}, {3, row[2]}}, false);
        }
    }

    /** "They are CONSISTENT when ..., ..., and ...": each of the three alone makes them inconsistent. */
    private static void allAtTheEdgeOfConsistent() {
        int[][] edge = {{6, 0}, {7, 20}, {8, 30}, {9, 50}, {1, 6000}, {2, 600}, {3, 600}};
        nextBySettings(edge, true);
        int[][] beyond = {{7, 19}, {8, 31}, {2, 599}, {3, 599}};
        for (int[] one : beyond) {
            int[][] settings = Arrays.copyOf(edge, edge.length + 1);
            settings[edge.length] = one;
            nextBySettings(settings, false);
        }
    }

    /** "(so there must have been 20)" */
    private static void twentyTicksMustHaveBeen() {
        BloodCircuitChannels x = new BloodCircuitChannels();
        CHECKS.due("7: no tick", x.next(), -1);
        x.tick(19);
        CHECKS.due("7: 19 ticks", x.next(), -1);
        x.tick(1);
        CHECKS.due("7: 20 ticks", x.next(), 1);
        x = new BloodCircuitChannels();
        x.tick(21);
        CHECKS.due("7: 21 ticks", x.next(), 1);
    }

    /** "the fluid was not off in any of the last 20 ticks" */
    private static void notOffInTheLast20() {
        int[][] offs = {{2, 376}, {2, 364}, {3, 1441}, {3, 1359}};
        for (int[] off : offs) {
            BloodCircuitChannels x = new BloodCircuitChannels();
            x.tick(30);
            x.sense(off[0], off[1]);
            x.tick(1);
            CHECKS.due("7: off in the last tick", x.next(), -1);
            x.sense(off[0], Checks.GOOD[off[0]]);
            CHECKS.due("7: good again, but no tick", x.next(), -1);
            x.tick(19);
            CHECKS.due("7: off in the 20th last tick", x.next(), -1);
            x.tick(1);
            CHECKS.due("7: off in the 21st last tick", x.next(), 1);
        }
        // Off in the coming tick is no matter yet.
        BloodCircuitChannels x = new BloodCircuitChannels();
        x.tick(20);
        x.sense(2, 600);
        CHECKS.due("7: a raw value that no tick has looked at", x.next(), 1);
    }

    /** "was not off in any of the last 20 ticks": as each of them was, whatever has been set since. */
    private static void notOffByTheParametersOfEachTick() {
        BloodCircuitChannels x = new BloodCircuitChannels();
        x.tick(20);
        x.set(4, 340);
        x.set(5, 1600);
        CHECKS.due("7: the ticks were not off", x.next(), 1);
        x = new BloodCircuitChannels();
        x.set(4, 380);
        x.tick(20);
        x.set(4, 370);
        CHECKS.due("7: the ticks were off", x.next(), -1);
        x.tick(19);
        CHECKS.due("7: the 20th last was off", x.next(), -1);
        x.tick(1);
        CHECKS.due("7: none of the 20 was off", x.next(), 1);
    }

    /** An object in phase 0, in which the alarm stands since the last treatment and its condition does not hold. */
    private static BloodCircuitChannels roundWithAlarm(int alarm) {
        BloodCircuitChannels x = Checks.inPhase(3);
        Checks.raise(x, alarm);
        Checks.soothe(x);
        x.next();
        x.substitute(1);
        Checks.leave(x);
        Checks.leave(x);
        Checks.leave(x);
        return x;
    }

    /** "from 0, unless ... no alarm stands" */
    private static void from0WithoutAlarm() {
        for (int alarm : Checks.ALARMS) {
            BloodCircuitChannels x = roundWithAlarm(alarm);
            CHECKS.due("11: round with " + alarm, x.phase(), 0);
            CHECKS.due("12: stands over the round " + alarm, x.alarms(), alarm);
            CHECKS.due("7: from 0 with " + alarm, x.next(), -1);
            CHECKS.due("8: acknowledged " + alarm, x.acknowledge(), 0);
            CHECKS.due("7: from 0 without " + alarm, x.next(), 1);
        }
    }

    /** "from 1, unless at least 100 ticks counted towards its end" */
    private static void from1After100() {
        BloodCircuitChannels x = Checks.inPhase(1);
        CHECKS.due("7: 0 in 1", x.next(), -1);
        x.tick(99);
        CHECKS.due("7: 99 in 1", x.next(), -1);
        x.tick(1);
        CHECKS.due("7: 100 in 1", x.next(), 2);
        x = Checks.inPhase(1);
        x.tick(600);
        CHECKS.due("7: 600 in 1", x.next(), 2);
        // Ticks that do not count do not help, and an alarm does not hinder.
        x = Checks.inPhase(1);
        Checks.raise(x, 32);
        CHECKS.due("19: the third tick had no PUMP", x.counted(), 2);
        x.tick(600);
        CHECKS.due("7: 2 of 603 in 1", x.next(), -1);
        x.substitute(1);
        x.tick(97);
        CHECKS.due("7: 99 of 700 in 1", x.next(), -1);
        x.tick(1);
        CHECKS.due("7: 100 of 701 in 1, SENSOR stands", x.next(), 2);
        CHECKS.due("12: SENSOR stands", x.alarms(), 32);
    }

    /** "from 2, unless no alarm stands" */
    private static void from2WithoutAlarm() {
        CHECKS.due("7: 2 without a tick", Checks.inPhase(2).next(), 3);
        int[] alarms = {1, 2, 4, 16, 32};
        for (int alarm : alarms) {
            BloodCircuitChannels x = Checks.inPhase(2);
            Checks.raise(x, alarm);
            CHECKS.due("7: from 2, the condition holds " + alarm, x.next(), -1);
            Checks.soothe(x);
            x.tick(1);
            CHECKS.due("7: from 2, the alarm stands " + alarm, x.next(), -1);
            x.acknowledge();
            CHECKS.due("7: from 2, acknowledged " + alarm, x.next(), 3);
        }
    }

    /** "From 3 and 6 it always leads on.": from 3 */
    private static void from3Always() {
        CHECKS.due("7: 3 without a tick", Checks.inPhase(3).next(), 4);
        for (int alarm : Checks.ALARMS) {
            BloodCircuitChannels x = Checks.inPhase(3);
            Checks.raise(x, alarm);
            CHECKS.due("7: from 3 with " + alarm, x.next(), 4);
            CHECKS.due("12: stays " + alarm, x.alarms(), alarm);
        }
    }

    /** "from 4, unless at least 50 counted" */
    private static void from4After50() {
        BloodCircuitChannels x = Checks.inPhase(4);
        CHECKS.due("7: 0 in 4", x.next(), -1);
        x.tick(49);
        CHECKS.due("7: 49 in 4", x.next(), -1);
        x.tick(1);
        CHECKS.due("7: 50 in 4", x.next(), 5);
        x = Checks.inPhase(4);
        x.tick(600);
        CHECKS.due("7: 600 in 4", x.next(), 5);
        x = Checks.inPhase(4);
        x.tick(49);
        x.sense(1, 451);
        x.tick(1);
        CHECKS.due("7: 49 of 50 in 4, one tripped", x.next(), -1);
        Checks.soothe(x);
        Checks.raise(x, 4);
        CHECKS.due("7: 49 of 51 in 4, AIR", x.next(), -1);
        Checks.soothe(x);
        x.substitute(1);
        x.tick(1);
        CHECKS.due("7: 50 of 52 in 4, AIR stands", x.next(), 5);
        CHECKS.due("12: AIR stands", x.alarms(), 4);
    }

    /** "from 5, unless at least 30 did" */
    private static void from5After30() {
        BloodCircuitChannels x = Checks.inPhase(5);
        CHECKS.due("7: 0 in 5", x.next(), -1);
        x.tick(29);
        CHECKS.due("7: 29 in 5", x.next(), -1);
        x.tick(1);
        CHECKS.due("7: 30 in 5", x.next(), 6);
        x = Checks.inPhase(5);
        x.tick(600);
        CHECKS.due("7: 600 in 5", x.next(), 6);
        x = Checks.inPhase(5);
        Checks.raise(x, 32);
        x.tick(26);
        CHECKS.due("7: 29 in 5, SENSOR", x.next(), -1);
        x.tick(1);
        CHECKS.due("7: 30 in 5, SENSOR", x.next(), 6);
    }

    /** "From 3 and 6 it always leads on.": from 6 */
    private static void from6Always() {
        CHECKS.due("7: 6 without a tick", Checks.inPhase(6).next(), 0);
        int[] alarms = {16, 32};
        for (int alarm : alarms) {
            BloodCircuitChannels x = Checks.inPhase(6);
            Checks.raise(x, alarm);
            CHECKS.due("7: from 6 with " + alarm, x.next(), 0);
            CHECKS.due("12: stays " + alarm, x.alarms(), alarm);
        }
    }

    /** "-1 when it is refused": as often as it is pressed. */
    private static void refusedStaysInThePhase() {
        int[] phases = {0, 1, 4, 5};
        for (int phase : phases) {
            BloodCircuitChannels x = Checks.inPhase(phase);
            for (int press = 0; press < 3; press++) {
                CHECKS.due("7: refused in " + phase, x.next(), -1);
                CHECKS.due("11: refused in " + phase, x.phase(), phase);
            }
        }
    }

    /** "(Alarms, parameters and counts stay, but as said above.)" */
    private static void nextLeavesTheRest() {
        BloodCircuitChannels x = Checks.inPhase(3, 33, 1);
        x.tick(100);
        Checks.raise(x, 4);
        for (int to = 4; to <= 7; to++) {
            x.substitute(1);
            Checks.soothe(x);
            int ticks = to == 5 ? 50 : to == 6 ? 30 : 1;
            x.tick(ticks);
            int steady = x.steady();
            int outputs = x.outputs();
            CHECKS.due("7: to " + to, x.next(), to % 7);
            CHECKS.due("12: alarms stay", x.alarms(), 4);
            CHECKS.due("13: conditions of the last tick", x.conditions(), 0);
            CHECKS.due("14: outputs of the last tick", x.outputs(), outputs);
            CHECKS.due("15: effective stays", x.effective(), 100);
            CHECKS.due("16: accounted stays", x.accounted(), 5500);
            CHECKS.due("17: strokes stay", x.strokes(), 11);
            CHECKS.due("18: trips stay", x.trips(), 1);
            CHECKS.due("20: steady stays", x.steady(), steady);
            CHECKS.due("3: parameters stay", x.parameter(1), 33);
        }
    }

    /** "When a phase begins, what counts towards its end is 0" */
    private static void countBeginsWith0() {
        BloodCircuitChannels x = new BloodCircuitChannels();
        int[] ticks = {20, 100, 5, 5, 50, 30, 5};
        for (int step = 0; step < 14; step++) {
            int phase = step % 7;
            x.tick(ticks[phase]);
            boolean counts = phase == 1 || phase == 4 || phase == 5;
            CHECKS.due("19: at the end of " + phase, x.counted(), counts ? ticks[phase] : 0);
            x.next();
            CHECKS.due("19: at the beginning of " + x.phase(), x.counted(), 0);
        }
        x = Checks.inPhase(4);
        x.tick(600);
        CHECKS.due("19: goes on beyond 50", x.counted(), 600);
        x.next();
        CHECKS.due("19: anew in 5", x.counted(), 0);
        CHECKS.due("7: none of 4 counts for 5", x.next(), -1);
        CHECKS.due("11: in 5", x.phase(), 5);
    }

    /** "When in phase 3 the effective ticks counted are 600 * MINUTES, the phase becomes 4." */
    private static void phase3EndsByItself() {
        int[] minutes = {1, 2, 10};
        for (int m : minutes) {
            BloodCircuitChannels x = Checks.inPhase(3, 0, m);
            for (int k = 1; k < m; k++) {
                x.tick(600);
            }
            x.tick(599);
            CHECKS.due("11: one too few of " + m, x.phase(), 3);
            CHECKS.due("15: one too few of " + m, x.effective(), 600 * m - 1);
            x.sense(2, 376);
            x.tick(5);
            CHECKS.due("11: ticks that are not effective do not end it", x.phase(), 3);
            x.sense(2, 370);
            x.tick(1);
            CHECKS.due("11: all of " + m, x.phase(), 4);
            CHECKS.due("15: all of " + m, x.effective(), 600 * m);
            CHECKS.due("19: 4 begins with 0", x.counted(), 0);
            CHECKS.due("14: the outputs are those of phase 3", x.outputs(), 3);
            x.tick(49);
            CHECKS.due("7: 49 in 4", x.next(), -1);
            x.tick(1);
            CHECKS.due("7: 50 in 4", x.next(), 5);
            CHECKS.due("15: stays", x.effective(), 600 * m);
        }
    }

    /** "when TREATING begins, the effective ticks, the accounted volume and the strokes made are 0 too" */
    private static void treatingBeginsAnew() {
        BloodCircuitChannels x = Checks.inPhase(3, 33, 1);
        x.tick(100);
        x.sense(0, 251);
        x.tick(1);
        x.sense(0, 0);
        // Over 4, 5, 6, 0, 1 and 2 all stays; it is 0 from the key on that leads to 3.
        for (int left = 3; left <= 9; left++) {
            Checks.leave(x);
            boolean treating = left == 9;
            CHECKS.due("11: phase", x.phase(), (left + 1) % 7);
            CHECKS.due("15: in phase " + x.phase(), x.effective(), treating ? 0 : 101);
            CHECKS.due("16: in phase " + x.phase(), x.accounted(), treating ? 0 : 5500);
            CHECKS.due("17: in phase " + x.phase(), x.strokes(), treating ? 0 : 11);
            CHECKS.due("18: in phase " + x.phase(), x.trips(), 1);
        }
        x.tick(9);
        CHECKS.due("16: 495 wanted", x.accounted(), 0);
        x.tick(1);
        CHECKS.due("16: 550 wanted", x.accounted(), 500);
        CHECKS.due("10: the rest of the treatment", x.tick(600), 590);
        CHECKS.due("11: ended", x.phase(), 4);
        CHECKS.due("17: whole volume", x.strokes(), 66);
    }

    /** "In phases 1 and 4 a tick with PUMP among the outputs ... counts towards the end of the phase." */
    private static void countedByPumpIn1And4() {
        int[] phases = {1, 4};
        for (int phase : phases) {
            for (int commands = 0; commands <= 15; commands++) {
                BloodCircuitChannels x = Checks.inPhase(phase);
                x.substitute(commands);
                x.tick(7);
                CHECKS.due("19: " + commands + " in " + phase, x.counted(), commands % 2 == 1 ? 7 : 0);
            }
            BloodCircuitChannels x = Checks.inPhase(phase);
            x.tick(5);
            CHECKS.due("19: own PUMP in " + phase, x.counted(), 5);
            x.sense(0, 251);
            x.tick(1);
            CHECKS.due("19: the protective channel takes PUMP in 4 alone", x.counted(), phase == 4 ? 5 : 6);
            x.sense(0, 0);
            Checks.raise(x, 32);
            x.tick(10);
            CHECKS.due("19: SENSOR takes PUMP in " + phase, x.counted(), phase == 4 ? 7 : 8);
        }
    }

    /** "in phase 5 every tick, counts towards the end of the phase" */
    private static void countedByEveryTickIn5() {
        for (int commands = 0; commands <= 15; commands++) {
            BloodCircuitChannels x = Checks.inPhase(5);
            x.tick(1);
            CHECKS.due("19: no PUMP", x.outputs() & 1, 0);
            x.substitute(commands);
            x.sense(4, 1);
            x.tick(7);
            CHECKS.due("19: " + commands + " in 5", x.counted(), 8);
        }
    }

    /** "(0 in the phases 0, 2, 3, 6)" */
    private static void countedIs0InTheOtherPhases() {
        int[] phases = {0, 2, 3, 6};
        for (int phase : phases) {
            BloodCircuitChannels x = Checks.inPhase(phase);
            x.tick(3);
            CHECKS.due("19: own commands in " + phase, x.counted(), 0);
            x.substitute(15);
            x.tick(100);
            CHECKS.due("19: PUMP in " + phase, x.counted(), 0);
        }
    }

    /** "those whose condition did not hold in the last tick": no tick, no alarm */
    private static void acknowledgeBeforeAnything() {
        BloodCircuitChannels x = new BloodCircuitChannels();
        CHECKS.due("8: no tick", x.acknowledge(), 0);
        x.tick(1);
        CHECKS.due("8: no alarm", x.acknowledge(), 0);
        CHECKS.due("12: no alarm", x.alarms(), 0);
    }

    /** "of the alarms that stand, those whose condition did not hold in the last tick stand no more" */
    private static void acknowledgeByTheLastTick() {
        for (int alarm : Checks.ALARMS) {
            BloodCircuitChannels x = Checks.inPhase(3);
            Checks.raise(x, alarm);
            CHECKS.due("8: the condition holds " + alarm, x.acknowledge(), alarm);
            CHECKS.due("12: still stands " + alarm, x.alarms(), alarm);
            Checks.soothe(x);
            CHECKS.due("8: it held in the last tick " + alarm, x.acknowledge(), alarm);
            x.tick(1);
            CHECKS.due("12: stands until acknowledged " + alarm, x.alarms(), alarm);
            CHECKS.due("8: no more " + alarm, x.acknowledge(), 0);
            CHECKS.due("12: no more " + alarm, x.alarms(), 0);
            CHECKS.due("8: nothing left " + alarm, x.acknowledge(), 0);
            x.tick(1);
            CHECKS.due("12: not raised again " + alarm, x.alarms(), 0);
        }
    }

    /** "Answers the sum of those that still stand." */
    private static void acknowledgeSomeOfThem() {
        BloodCircuitChannels x = Checks.inPhase(3);
        x.sense(5, 1);
        x.sense(4, 1);
        x.sense(2, 601);
        x.tick(1);
        x.tick(2);
        CHECKS.due("12: three", x.alarms(), 44);
        CHECKS.due("8: all hold", x.acknowledge(), 44);
        x.sense(5, 0);
        x.tick(1);
        CHECKS.due("13: two hold", x.conditions(), 36);
        CHECKS.due("8: two are left", x.acknowledge(), 36);
        CHECKS.due("13: conditions stay", x.conditions(), 36);
        CHECKS.due("14: outputs stay", x.outputs(), 4);
        x.sense(2, 370);
        x.tick(1);
        CHECKS.due("8: one is left", x.acknowledge(), 4);
        x.sense(4, 0);
        x.tick(1);
        CHECKS.due("8: none is left", x.acknowledge(), 0);
    }

    /** "in the last tick": not in the phase that has come since. */
    private static void acknowledgeAfterTheNextKey() {
        BloodCircuitChannels x = Checks.inPhase(3);
        Checks.raise(x, 8);
        x.next();
        CHECKS.due("8: LEAK held in the last tick, of phase 3", x.acknowledge(), 8);
        CHECKS.due("13: LEAK", x.conditions(), 8);
        x.tick(1);
        CHECKS.due("13: no LEAK in 4", x.conditions(), 0);
        CHECKS.due("8: LEAK did not hold in the last tick", x.acknowledge(), 0);
        Checks.soothe(x);
        x.tick(50);
        Checks.raise(x, 4);
        x.next();
        CHECKS.due("8: AIR held in the last tick, of phase 4", x.acknowledge(), 4);
        x.tick(1);
        CHECKS.due("8: AIR did not hold in the last tick", x.acknowledge(), 0);
    }
}
