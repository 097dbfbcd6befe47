/**
 * Promises 9 (substitute), 14 (outputs), 15 (effective), 16 (accounted), 17 (strokes) and 18 (trips). Above each test
 * stands the sentence of the document that it holds the class against.
 */
public final class OutputsTest {
    private static final Checks CHECKS = new Checks();

    public static void main(String[] args) {
        commandsByPhase();
        pumpWithoutStoppingAlarm();
        clampOpenWithoutThreeAlarms();
        bypassWhenTheFluidIsOff();
        bypassWhenLeakStands();
        outputsOfTheLastTick();
        effectiveTicks();
        effectiveInPhase3Alone();
        effectiveByTheOwnCommands();
        wantedAtLeast500More();
        wantedRoundedDown();
        wantedByTheQuotient();
        noVolumeIsWanted();
        noStrokeInOtherTicks();
        wholeVolume();
        substituteRange();
        substitutedInAllPhases();
        substitutedFromTheNextTick();
        substitutedTillSaidOtherwise();
        substitutionChangesNothingOf3();
        airTrips();
        arterialPressureTrips();
        venousPressureTrips();
        tripsInPhases2To4();
        tripsByRawValues();
        tripsOncePerTick();
        tripTakesThree();
        hotFluidIsBypassed();
        hotByRawValues();
        strokeInPhase3Alone();
        strokesHaveALimit();
        strokeLimitBindsTheOwnOnes();
        strokesAreThoseMade();
        CHECKS.end();
    }

    /** "PUMP (1): the phase is 1 .. 4 ... CLAMP OPEN (2): the phase is 1 .. 4 ... BYPASS (4): the phase is not 3" */
    private static void commandsByPhase() {
        int[] want = {4, 7, 7, 3, 7, 4, 4};
        for (int phase = 0; phase <= 6; phase++) {
            BloodCircuitChannels x = Checks.inPhase(phase);
            x.tick(1);
            CHECKS.due("14: phase " + phase, x.outputs(), want[phase]);
        }
    }

    /** "PUMP (1): ... no stopping alarm stands" and "all but FLUID are STOPPING" */
    private static void pumpWithoutStoppingAlarm() {
        for (int alarm : Checks.ALARMS) {
            BloodCircuitChannels x = Checks.inPhase(3);
            x.tick(1);
            CHECKS.due("14: PUMP before " + alarm, x.outputs() & 1, 1);
            Checks.raise(x, alarm);
            int pump = alarm == 16 ? 1 : 0;
            CHECKS.due("14: PUMP in the tick that raises " + alarm, x.outputs() & 1, pump);
            Checks.soothe(x);
            x.tick(1);
            CHECKS.due("14: PUMP while it stands " + alarm, x.outputs() & 1, pump);
            x.next();
            x.tick(1);
            CHECKS.due("14: PUMP in 4 while it stands " + alarm, x.outputs() & 1, pump);
            x.acknowledge();
            x.tick(1);
            CHECKS.due("14: PUMP in 4, acknowledged " + alarm, x.outputs() & 1, 1);
        }
        int[] raisedIn2 = {1, 2, 4, 16, 32};
        for (int alarm : raisedIn2) {
            BloodCircuitChannels x = Checks.inPhase(2);
            Checks.raise(x, alarm);
            CHECKS.due("14: PUMP in 2 with " + alarm, x.outputs() & 1, alarm == 16 ? 1 : 0);
        }
        int[] raisedIn1 = {16, 32};
        for (int alarm : raisedIn1) {
            BloodCircuitChannels x = Checks.inPhase(1);
            Checks.raise(x, alarm);
            CHECKS.due("14: PUMP in 1 with " + alarm, x.outputs() & 1, alarm == 16 ? 1 : 0);
        }
    }

    /** "CLAMP OPEN (2): ... none of VENOUS, AIR and SENSOR stands" */
    private static void clampOpenWithoutThreeAlarms() {
        for (int alarm : Checks.ALARMS) {
            BloodCircuitChannels x = Checks.inPhase(3);
            Checks.raise(x, alarm);
            int open = alarm == 2 || alarm == 4 || alarm == 32 ? 0 : 2;
            CHECKS.due("14: CLAMP OPEN in the tick that raises " + alarm, x.outputs() & 2, open);
            Checks.soothe(x);
            x.tick(1);
            CHECKS.due("14: CLAMP OPEN while it stands " + alarm, x.outputs() & 2, open);
            x.next();
            x.tick(1);
            CHECKS.due("14: CLAMP OPEN in 4 while it stands " + alarm, x.outputs() & 2, open);
            x.acknowledge();
            x.tick(1);
            CHECKS.due("14: CLAMP OPEN in 4, acknowledged " + alarm, x.outputs() & 2, 2);
        }
        BloodCircuitChannels x = Checks.inPhase(1);
        Checks.raise(x, 32);
        CHECKS.due("14: CLAMP OPEN in 1 with SENSOR", x.outputs(), 4);
    }

    /** "BYPASS (4): ... or the fluid is off in this tick" */
    private static void bypassWhenTheFluidIsOff() {
        int[][] rows = { // sensor, value, outputs in phase 3
            {2, 364, 7}, {2, 365, 3}, {2, 375, 3}, {2, 376, 7}, {3, 1359, 7}, {3, 1360, 3}, {3, 1440, 3}, {3, 1441, 7},
        };
        for (int[] row : rows) {
            BloodCircuitChannels x = Checks.inPhase(3);
            x.sense(row[0], row[1]);
            x.tick(1);
            CHECKS.due("14: sensor " + row[0] + " at " + row[1], x.outputs(), row[2]);
            x.sense(row[0], Checks.GOOD[row[0]]);
            x.tick(1);
            CHECKS.due("14: off in the tick before", x.outputs(), 3);
        }
        // FLUID that stands is no BYPASS; off in this tick alone is.
        BloodCircuitChannels x = Checks.inPhase(3);
        Checks.raise(x, 16);
        CHECKS.due("14: FLUID, off", x.outputs(), 7);
        Checks.soothe(x);
        x.tick(1);
        CHECKS.due("12: FLUID stands", x.alarms(), 16);
        CHECKS.due("14: FLUID stands, not off", x.outputs(), 3);
    }

    /** "or LEAK stands" */
    private static void bypassWhenLeakStands() {
        for (int alarm : Checks.ALARMS) {
            BloodCircuitChannels x = Checks.inPhase(3);
            Checks.raise(x, alarm);
            Checks.soothe(x);
            x.tick(1);
            CHECKS.due("14: BYPASS while it stands " + alarm, x.outputs() & 4, alarm == 8 ? 4 : 0);
            x.acknowledge();
            x.tick(1);
            CHECKS.due("14: acknowledged " + alarm, x.outputs(), 3);
        }
    }

    /** "The outputs of the last tick: a sum of 1, 2, 4, 8." */
    private static void outputsOfTheLastTick() {
        BloodCircuitChannels x = Checks.inPhase(3);
        CHECKS.due("14: of phase 1, no tick in 2 and 3", x.outputs(), 7);
        x.tick(1);
        CHECKS.due("14: in 3", x.outputs(), 3);
        x.sense(4, 1);
        x.substitute(8);
        x.next();
        x.acknowledge();
        x.tick(0);
        CHECKS.due("14: until the next tick", x.outputs(), 3);
        x.tick(1);
        CHECKS.due("14: in 4", x.outputs(), 0);
    }

    /** "A tick in phase 3 with PUMP and without BYPASS is EFFECTIVE" */
    private static void effectiveTicks() {
        BloodCircuitChannels x = Checks.inPhase(3);
        CHECKS.due("15: no tick", x.effective(), 0);
        x.tick(7);
        CHECKS.due("15: PUMP without BYPASS", x.effective(), 7);
        x.sense(2, 376);
        x.tick(5);
        CHECKS.due("15: PUMP with BYPASS", x.effective(), 7);
        x.sense(2, 375);
        x.tick(1);
        CHECKS.due("15: PUMP without BYPASS again", x.effective(), 8);
        Checks.soothe(x);
        for (int alarm : Checks.ALARMS) {
            x = Checks.inPhase(3);
            Checks.raise(x, alarm);
            Checks.soothe(x);
            int before = x.effective();
            x.tick(5);
            CHECKS.due("15: while it stands " + alarm, x.effective() - before, alarm == 16 ? 5 : 0);
            x.acknowledge();
            before = x.effective();
            x.tick(5);
            CHECKS.due("15: acknowledged " + alarm, x.effective() - before, 5);
        }
    }

    /** "A tick in phase 3": in none else, though there is PUMP. */
    private static void effectiveInPhase3Alone() {
        for (int phase = 0; phase <= 6; phase++) {
            BloodCircuitChannels x = Checks.inPhase(phase);
            x.tick(20);
            CHECKS.due("15: own commands in " + phase, x.effective(), phase == 3 ? 20 : 0);
            x.substitute(1);
            x.tick(20);
            CHECKS.due("15: PUMP without BYPASS by substitution in " + phase, x.effective(), phase == 3 ? 40 : 0);
        }
        BloodCircuitChannels x = Checks.inPhase(3);
        x.tick(14);
        x.next();
        x.tick(1);
        CHECKS.due("15: stays in 4", x.effective(), 14);
    }

    /** "The control channel's COMMANDS": what the protective channel makes of them does not count. */
    private static void effectiveByTheOwnCommands() {
        BloodCircuitChannels x = Checks.inPhase(3);
        x.sense(1, 451);
        x.tick(3);
        CHECKS.due("14: tripped", x.outputs(), 0);
        CHECKS.due("15: tripped", x.effective(), 3);
        x.sense(1, 100);
        x.sense(2, 700);
        x.tick(2);
        CHECKS.due("14: BYPASS of the protective channel", x.outputs(), 7);
        CHECKS.due("15: BYPASS of the protective channel", x.effective(), 5);
    }

    /** "when it is at least 500 more than what is ACCOUNTED" */
    private static void wantedAtLeast500More() {
        // 33 ml in 600 ticks are 55 microlitres a tick: 495 at the ninth, 550 at the tenth.
        BloodCircuitChannels x = Checks.inPhase(3, 33, 1);
        for (int e = 1; e <= 100; e++) {
            x.tick(1);
            boolean stroke = 55 * e / 500 > 55 * (e - 1) / 500;
            CHECKS.due("14: effective tick " + e, x.outputs(), stroke ? 11 : 3);
            CHECKS.due("16: effective tick " + e, x.accounted(), 55 * e / 500 * 500);
            CHECKS.due("17: effective tick " + e, x.strokes(), 55 * e / 500);
        }
        // 3 ml in 1200 ticks are 2.5 a tick: 497.5 at tick 199, 500 just at tick 200.
        x = Checks.inPhase(3, 3, 2);
        x.tick(199);
        CHECKS.due("16: 497 wanted", x.accounted(), 0);
        x.tick(1);
        CHECKS.due("16: 500 wanted", x.accounted(), 500);
        CHECKS.due("14: 500 wanted", x.outputs(), 11);
        x.tick(1);
        CHECKS.due("14: 502 wanted, 500 accounted", x.outputs(), 3);
        x.tick(198);
        CHECKS.due("16: 997 wanted", x.accounted(), 500);
        x.tick(1);
        CHECKS.due("16: 1000 wanted", x.accounted(), 1000);
    }

    /** "VOLUME * 1000 * e / (600 * MINUTES) microlitres, rounded down" */
    private static void wantedRoundedDown() {
        // 1 ml in 1200 ticks: 499.17 at tick 599; in 2400 ticks: 499.58 at tick 1199. Neither is 500 yet.
        int[] minutes = {1, 2, 4, 10};
        for (int m : minutes) {
            BloodCircuitChannels x = Checks.inPhase(3, 1, m);
            int last = 300 * m - 1;
            for (int left = last; left > 0; left -= 600) {
                x.tick(Math.min(left, 600));
            }
            CHECKS.due("15: just too few of " + m, x.effective(), last);
            CHECKS.due("16: less than 500 wanted of " + m, x.accounted(), 0);
            x.tick(1);
            CHECKS.due("16: 500 wanted of " + m, x.accounted(), 500);
        }
    }

    /** "with e effective ticks counted so far (this one included) the WANTED volume is VOLUME * 1000 * e / ..." */
    private static void wantedByTheQuotient() {
        int[][] rows = {
            {1, 1}, {2, 1}, {7, 1}, {13, 1}, {16, 1}, {17, 1}, {29, 1}, {31, 1}, {32, 1}, {33, 1}, {7, 3}, {65, 2},
            {99, 3}, {100, 3}, {333, 10}, {1999, 60}, {5999, 180}, {6000, 180}, {6000, 599}, {5987, 600}, {6000, 600},
        };
        for (int[] row : rows) {
            BloodCircuitChannels x = Checks.inPhase(3, row[0], row[1]);
            int made = 0;
            int accounted = 0;
            // As many strokes as fit in the calls that an object is used for.
            for (int stroke = 0; stroke < 100 && made < 600 * row[1]; stroke++) {
                int e = made + 1;
                while (e < 600 * row[1] && row[0] * 1000L * e / (600L * row[1]) - accounted < 500) {
                    e++;
                }
                if (e - made > 1) {
                    x.tick(e - made - 1);
                }
                CHECKS.due("16: " + row[0] + " in " + row[1] + ", before " + e, x.accounted(), accounted);
                x.tick(1);
                made = e;
                accounted += 500;
                CHECKS.due("16: " + row[0] + " in " + row[1] + ", with " + e, x.accounted(), accounted);
            }
        }
    }

    /** "1 VOLUME to be removed, millilitres, 0 .. 6000": with the least one nothing is wanted. */
    private static void noVolumeIsWanted() {
        BloodCircuitChannels x = Checks.inPhase(3, 0, 1);
        x.tick(599);
        CHECKS.due("14: no STROKE", x.outputs(), 3);
        x.tick(1);
        CHECKS.due("14: no STROKE at the end", x.outputs(), 3);
        CHECKS.due("15: all", x.effective(), 600);
        CHECKS.due("16: none", x.accounted(), 0);
        CHECKS.due("17: none", x.strokes(), 0);
    }

    /** "In other ticks STROKE is not commanded." */
    private static void noStrokeInOtherTicks() {
        // One more effective tick is due to a stroke; ticks with BYPASS or without PUMP do not bring it.
        BloodCircuitChannels x = Checks.inPhase(3, 33, 1);
        x.tick(9);
        x.sense(2, 376);
        x.tick(50);
        CHECKS.due("16: BYPASS", x.accounted(), 0);
        CHECKS.due("14: BYPASS", x.outputs(), 7);
        x.sense(2, 370);
        Checks.raise(x, 4);
        Checks.soothe(x);
        x.tick(50);
        CHECKS.due("16: no PUMP", x.accounted(), 0);
        CHECKS.due("14: no PUMP", x.outputs(), 0);
        x.acknowledge();
        x.tick(1);
        CHECKS.due("16: effective", x.accounted(), 500);
        CHECKS.due("14: effective", x.outputs(), 11);
        x.next();
        x.tick(50);
        CHECKS.due("16: in 4", x.accounted(), 500);
        CHECKS.due("14: in 4", x.outputs(), 7);
    }

    /** "500 microlitres more are accounted": to the whole VOLUME, and no more, when the treatment ends. */
    private static void wholeVolume() {
        int[][] rows = {{1, 1}, {16, 1}, {33, 1}, {66, 2}, {100, 3}, {6000, 180}, {5999, 180}};
        for (int[] row : rows) {
            BloodCircuitChannels x = Checks.inPhase(3, row[0], row[1]);
            for (int k = 0; k < row[1]; k++) {
                CHECKS.due("11: not ended", x.phase(), 3);
                x.tick(600);
            }
            CHECKS.due("11: ended", x.phase(), 4);
            CHECKS.due("15: all of " + row[1], x.effective(), 600 * row[1]);
            CHECKS.due("16: all of " + row[0], x.accounted(), 1000 * row[0]);
            CHECKS.due("17: all of " + row[0], x.strokes(), 2 * row[0]);
            CHECKS.due("14: the last one", x.outputs(), 11);
        }
    }

    /** "Answers true; false when commands is not -1 .. 15." */
    private static void substituteRange() {
        for (int commands = -1; commands <= 15; commands++) {
            CHECKS.due("9: substitute(" + commands + ")", new BloodCircuitChannels().substitute(commands), true);
        }
        int[] wrong = {-2, -3, 16, 17, 31, Integer.MIN_VALUE, Integer.MAX_VALUE};
        int[] standing = {-1, 0, 9, 15};
        for (int commands : wrong) {
            for (int stands : standing) {
                BloodCircuitChannels x = Checks.inPhase(3, 33, 1);
                x.substitute(stands);
                CHECKS.due("9: substitute(" + commands + ")", x.substitute(commands), false);
                x.tick(1);
                CHECKS.due("14: still " + stands, x.outputs(), stands == -1 ? 3 : stands);
            }
        }
    }

    /** "(till it is said otherwise, in all phases)" and "There is no STROKE when the phase is not 3" */
    private static void substitutedInAllPhases() {
        for (int phase = 0; phase <= 6; phase++) {
            for (int commands = 0; commands <= 15; commands++) {
                BloodCircuitChannels x = Checks.inPhase(phase, 10, 10);
                CHECKS.due("9: " + commands + " in phase " + phase, x.substitute(commands), true);
                x.tick(1);
                int want = phase == 3 ? commands : commands & 7;
                CHECKS.due("14: " + commands + " in phase " + phase, x.outputs(), want);
                CHECKS.due("17: " + commands + " in phase " + phase, x.strokes(), want >> 3);
            }
        }
    }

    /** "From the next tick on the commands are substituted by these" */
    private static void substitutedFromTheNextTick() {
        BloodCircuitChannels x = new BloodCircuitChannels();
        x.substitute(15);
        CHECKS.due("14: no tick yet", x.outputs(), 0);
        x.tick(1);
        CHECKS.due("14: the first tick", x.outputs(), 7);
        x.substitute(1);
        CHECKS.due("14: of the last tick", x.outputs(), 7);
        x.tick(1);
        CHECKS.due("14: the next tick", x.outputs(), 1);
    }

    /** "(till it is said otherwise, ...): a sum of 1, 2, 4, 8; -1: not any more" */
    private static void substitutedTillSaidOtherwise() {
        BloodCircuitChannels x = new BloodCircuitChannels();
        x.substitute(3);
        for (int phase = 0; phase <= 6; phase++) {
            CHECKS.due("11: phase", x.phase(), phase);
            x.tick(100);
            CHECKS.due("14: still 3 in " + phase, x.outputs(), 3);
            x.next();
        }
        x.substitute(0);
        x.tick(1);
        CHECKS.due("14: none", x.outputs(), 0);
        x.substitute(-1);
        x.tick(1);
        CHECKS.due("14: own ones", x.outputs(), 4);
        x.substitute(-1);
        x.tick(1);
        CHECKS.due("14: still own ones", x.outputs(), 4);
    }

    /** "(nothing of 3 changes by that)" */
    private static void substitutionChangesNothingOf3() {
        for (int commands = 0; commands <= 15; commands++) {
            BloodCircuitChannels x = Checks.inPhase(3, 33, 1);
            x.substitute(commands);
            x.tick(9);
            CHECKS.due("15: " + commands, x.effective(), 9);
            CHECKS.due("16: 495 wanted, " + commands, x.accounted(), 0);
            x.tick(1);
            CHECKS.due("15: " + commands, x.effective(), 10);
            CHECKS.due("16: 550 wanted, " + commands, x.accounted(), 500);
            CHECKS.due("17: made by substitution, " + commands, x.strokes(), commands >= 8 ? 10 : 0);
            x.sense(2, 400);
            x.tick(3);
            CHECKS.due("15: not effective, " + commands, x.effective(), 10);
            CHECKS.due("16: not accounted, " + commands, x.accounted(), 500);
        }
    }

    private static void trip(int sensor, int value, boolean trips) {
        for (int phase = 2; phase <= 4; phase++) {
            BloodCircuitChannels x = Checks.inPhase(phase, 33, 1);
            x.sense(sensor, value);
            x.substitute(15);
            x.tick(1);
            String what = "sensor " + sensor + " at " + value + " in " + phase;
            CHECKS.due("18: " + what, x.trips(), trips ? 1 : 0);
            CHECKS.due("14: " + what, x.outputs(), trips ? 4 : phase == 3 ? 15 : 7);
            CHECKS.due("17: " + what, x.strokes(), !trips && phase == 3 ? 1 : 0);
        }
    }

    /** "air is not 0" */
    private static void airTrips() {
        trip(4, 0, false);
        int[] values = {1, -1, 2, Integer.MIN_VALUE, Integer.MAX_VALUE};
        for (int v : values) {
            trip(4, v, true);
        }
    }

    /** "the arterial pressure is less than -350 or greater than 250" */
    private static void arterialPressureTrips() {
        int[] within = {-350, -349, 0, 249, 250};
        int[] beyond = {-351, -700, -701, 251, 500, 501, Integer.MIN_VALUE, Integer.MAX_VALUE};
        for (int v : within) {
            trip(0, v, false);
        }
        for (int v : beyond) {
            trip(0, v, true);
        }
    }

    /** "the venous one is less than -50 or greater than 450" */
    private static void venousPressureTrips() {
        int[] within = {-50, -49, 0, 449, 450};
        int[] beyond = {-51, -200, -201, 451, 800, 801, Integer.MIN_VALUE, Integer.MAX_VALUE};
        for (int v : within) {
            trip(1, v, false);
        }
        for (int v : beyond) {
            trip(1, v, true);
        }
        // The other sensors trip nothing, whatever they say.
        int[] far = {Integer.MIN_VALUE, Integer.MAX_VALUE};
        for (int v : far) {
            trip(2, v, false);
            trip(3, v, false);
            trip(5, v, false);
        }
    }

    /** "it TRIPS when the phase is 2 .. 4" */
    private static void tripsInPhases2To4() {
        int[][] beyond = {{0, -351}, {0, 251}, {1, -51}, {1, 451}, {4, 1}};
        for (int[] row : beyond) {
            for (int phase = 0; phase <= 6; phase++) {
                BloodCircuitChannels x = Checks.inPhase(phase, 33, 1);
                x.sense(row[0], row[1]);
                x.substitute(15);
                x.tick(1);
                x.tick(4);
                boolean trips = phase >= 2 && phase <= 4;
                CHECKS.due("18: phase " + phase, x.trips(), trips ? 5 : 0);
                CHECKS.due("14: phase " + phase, x.outputs(), trips ? 4 : 7);
                CHECKS.due("17: phase " + phase, x.strokes(), 0);
            }
        }
    }

    /** "The protective channel, by raw values": not by conditioned ones, and not by alarms */
    private static void tripsByRawValues() {
        BloodCircuitChannels x = Checks.inPhase(3);
        x.sense(0, -701);
        x.tick(1);
        CHECKS.due("5: conditioned is good", x.conditioned(0), 0);
        CHECKS.due("18: raw is not", x.trips(), 1);
        x.sense(0, 0);
        x.sense(4, 1);
        x.tick(1);
        x.sense(4, 0);
        x.substitute(15);
        x.tick(1);
        CHECKS.due("12: AIR stands", x.alarms(), 4);
        CHECKS.due("18: raw is good", x.trips(), 2);
        CHECKS.due("14: nothing is taken", x.outputs(), 15);
    }

    /** "The number of ticks so far in which the protective channel tripped." */
    private static void tripsOncePerTick() {
        BloodCircuitChannels x = Checks.inPhase(2);
        CHECKS.due("18: none", x.trips(), 0);
        x.sense(0, 251);
        x.sense(1, 451);
        x.sense(4, 1);
        CHECKS.due("18: not before the tick", x.trips(), 0);
        x.tick(1);
        CHECKS.due("18: three reasons, one tick", x.trips(), 1);
        x.tick(7);
        CHECKS.due("18: eight ticks", x.trips(), 8);
        Checks.soothe(x);
        x.tick(7);
        CHECKS.due("18: no more", x.trips(), 8);
    }

    /** "Then there is no PUMP, no CLAMP OPEN and no STROKE." */
    private static void tripTakesThree() {
        for (int commands = 0; commands <= 15; commands++) {
            BloodCircuitChannels x = Checks.inPhase(3, 33, 1);
            x.substitute(commands);
            x.sense(0, 251);
            x.tick(1);
            CHECKS.due("14: of " + commands, x.outputs(), commands & 4);
            CHECKS.due("17: of " + commands, x.strokes(), 0);
        }
        BloodCircuitChannels x = Checks.inPhase(3, 33, 1);
        x.tick(9);
        x.sense(0, 251);
        x.tick(1);
        CHECKS.due("16: commanded", x.accounted(), 500);
        CHECKS.due("17: not made", x.strokes(), 0);
        CHECKS.due("14: of its own commands", x.outputs(), 0);
        x.sense(0, 250);
        x.tick(1);
        CHECKS.due("14: not made up for", x.outputs(), 3);
    }

    /** "When the phase is 3 and the temperature greater than 410, there is BYPASS." */
    private static void hotFluidIsBypassed() {
        int[][] rows = {
            {Integer.MIN_VALUE, 0}, {409, 0}, {410, 0}, {411, 4}, {600, 4}, {601, 4}, {Integer.MAX_VALUE, 4},
        };
        for (int[] row : rows) {
            for (int phase = 0; phase <= 6; phase++) {
                BloodCircuitChannels x = Checks.inPhase(phase, 33, 1);
                x.substitute(0);
                x.sense(2, row[0]);
                x.tick(1);
                CHECKS.due("14: " + row[0] + " in " + phase, x.outputs(), phase == 3 ? row[1] : 0);
                x.substitute(11);
                x.tick(1);
                int rest = phase == 3 ? 11 : 3;
                CHECKS.due("14: beside the rest in " + phase, x.outputs(), phase == 3 ? rest | row[1] : rest);
                CHECKS.due("18: no trip", x.trips(), 0);
            }
        }
    }

    /** "The protective channel, by raw values": the temperature too */
    private static void hotByRawValues() {
        BloodCircuitChannels x = Checks.inPhase(3);
        x.substitute(0);
        x.sense(2, 411);
        x.tick(1);
        CHECKS.due("14: both hot", x.outputs(), 4);
        x.sense(2, -1);
        x.tick(1);
        CHECKS.due("5: conditioned is hot", x.conditioned(2), 411);
        CHECKS.due("14: raw is not", x.outputs(), 0);
        x.sense(2, 370);
        x.tick(1);
        x.sense(2, 601);
        x.tick(1);
        CHECKS.due("5: conditioned is not hot", x.conditioned(2), 370);
        CHECKS.due("14: raw is", x.outputs(), 4);
    }

    /** "There is no STROKE when the phase is not 3" */
    private static void strokeInPhase3Alone() {
        for (int phase = 0; phase <= 6; phase++) {
            BloodCircuitChannels x = Checks.inPhase(phase, 33, 1);
            x.substitute(8);
            x.tick(5);
            CHECKS.due("14: in " + phase, x.outputs(), phase == 3 ? 8 : 0);
            CHECKS.due("17: in " + phase, x.strokes(), phase == 3 ? 5 : 0);
        }
    }

    /** "the strokes that were MADE and this one, 500 microlitres each, are more than VOLUME * 1000 + 500" */
    private static void strokesHaveALimit() {
        int[] volumes = {0, 1, 2, 9, 33};
        for (int volume : volumes) {
            BloodCircuitChannels x = Checks.inPhase(3, volume, 1);
            x.substitute(8);
            int most = 2 * volume + 1;
            x.tick(most);
            CHECKS.due("14: last stroke of " + volume, x.outputs(), 8);
            CHECKS.due("17: most strokes of " + volume, x.strokes(), most);
            x.tick(1);
            CHECKS.due("14: one too many of " + volume, x.outputs(), 0);
            CHECKS.due("17: one too many of " + volume, x.strokes(), most);
            x.tick(10);
            CHECKS.due("17: no more of " + volume, x.strokes(), most);
        }
        BloodCircuitChannels x = Checks.inPhase(3, 6000, 200);
        x.substitute(8);
        for (int k = 0; k < 20; k++) {
            x.tick(600);
        }
        CHECKS.due("17: just all of 6000", x.strokes(), 12000);
        x.tick(1);
        CHECKS.due("17: most strokes of 6000", x.strokes(), 12001);
        x.tick(1);
        CHECKS.due("17: one too many of 6000", x.strokes(), 12001);
        CHECKS.due("14: one too many of 6000", x.outputs(), 0);
    }

    /** "There is no STROKE ... when the strokes that were MADE and this one": those of the control channel too */
    private static void strokeLimitBindsTheOwnOnes() {
        for (int before = 1; before <= 3; before++) {
            BloodCircuitChannels x = Checks.inPhase(3, 1, 1);
            x.substitute(8);
            x.tick(before);
            x.substitute(-1);
            x.tick(299 - before);
            CHECKS.due("17: by substitution", x.strokes(), before);
            x.tick(1);
            CHECKS.due("16: commanded", x.accounted(), 500);
            CHECKS.due("14: after " + before, x.outputs(), before < 3 ? 11 : 3);
            CHECKS.due("17: after " + before, x.strokes(), Math.min(before + 1, 3));
            x.tick(300);
            CHECKS.due("16: all commanded", x.accounted(), 1000);
            CHECKS.due("17: at most three", x.strokes(), Math.min(before + 2, 3));
        }
    }

    /** "(of strokes commanded, made or not)" and "The strokes made." */
    private static void strokesAreThoseMade() {
        BloodCircuitChannels x = Checks.inPhase(3, 33, 1);
        x.substitute(7);
        x.tick(100);
        CHECKS.due("16: commanded", x.accounted(), 5500);
        CHECKS.due("17: not made", x.strokes(), 0);
        x.substitute(-1);
        x.tick(9);
        CHECKS.due("16: one more commanded", x.accounted(), 5500);
        x.tick(1);
        CHECKS.due("16: one more commanded", x.accounted(), 6000);
        CHECKS.due("17: that one is made", x.strokes(), 1);
        x.substitute(8);
        x.tick(5);
        CHECKS.due("16: none commanded", x.accounted(), 6000);
        CHECKS.due("17: five made", x.strokes(), 6);
    }
}
