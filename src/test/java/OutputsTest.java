/** Promises 9 (substitute), 14 (outputs), 15 (effective), 16 (accounted), 17 (strokes) and 18 (trips). */
public final class OutputsTest {
    private static final Checks CHECKS = new Checks();

    public static void main(String[] args) {
        byPhase();
        byAlarm();
        bypassInTreating();
        effectiveTicks();
        wantedVolume();
        largestVolume();
        substitutedByPhase();
        refusedSubstitution();
        substitutionChangesNoCounts();
        tripEdges();
        tripsByPhase();
        hotFluid();
        strokesHaveALimit();
        CHECKS.end();
    }

    private static void byPhase() {
        int[] want = {4, 7, 7, 3, 7, 4};
        for (int phase = 1; phase <= 5; phase++) {
            BloodCircuitChannels x = Checks.inPhase(phase);
            x.tick(1);
            CHECKS.due("14: phase " + phase, x.outputs(), want[phase]);
        }
        BloodCircuitChannels x = Checks.inPhase(5);
        x.tick(30);
        x.next();
        x.tick(1);
        CHECKS.due("14: phase 6", x.outputs(), 4);
        x.next();
        x.tick(1);
        CHECKS.due("14: phase 0", x.outputs(), 4);
    }

    private static void byAlarm() {
        int[][] rows = { // sensor, its value, ticks until the alarm, alarm, outputs in phase 3 then
            {0, -300, 30, 1, 2}, {1, 400, 30, 2, 0}, {4, 1, 1, 4, 0}, {5, 1, 1, 8, 6}, {3, 1300, 600, 16, 7},
            {5, -1, 3, 32, 0},
        };
        int[] goodAgain = {0, 100, 370, 1400, 0, 0};
        for (int[] row : rows) {
            BloodCircuitChannels x = Checks.inPhase(3);
            x.sense(row[0], row[1]);
            CHECKS.due("10: raised", x.tick(600), row[2]);
            CHECKS.due("12: raised", x.alarms(), row[3]);
            CHECKS.due("14: with alarm " + row[3], x.outputs(), row[4]);
            x.sense(row[0], goodAgain[row[0]]);
            x.tick(1);
            CHECKS.due("13: holds no more", x.conditions(), 0);
            CHECKS.due("14: alarm stands " + row[3], x.outputs(), row[3] == 16 ? 3 : row[4]);
            x.acknowledge();
            x.tick(1);
            CHECKS.due("14: acknowledged " + row[3], x.outputs(), 3);
        }
    }

    private static void bypassInTreating() {
        BloodCircuitChannels x = Checks.inPhase(3);
        x.sense(2, 376);
        x.tick(1);
        CHECKS.due("14: fluid is off", x.outputs(), 7);
        x.sense(2, 375);
        x.tick(1);
        CHECKS.due("14: fluid is good", x.outputs(), 3);
        x.sense(5, 1);
        x.tick(1);
        CHECKS.due("14: LEAK", x.outputs(), 6);
        x.next();
        x.tick(1);
        CHECKS.due("14: LEAK in 4", x.outputs(), 6);
    }

    private static void effectiveTicks() {
        BloodCircuitChannels x = Checks.inPhase(3);
        x.tick(7);
        CHECKS.due("15: PUMP without BYPASS", x.effective(), 7);
        x.sense(2, 376);
        x.tick(5);
        CHECKS.due("15: fluid off", x.effective(), 7);
        x.sense(2, 370);
        x.sense(4, 1);
        x.tick(1);
        CHECKS.due("15: AIR", x.effective(), 7);
        x.sense(4, 0);
        x.tick(5);
        CHECKS.due("15: AIR stands", x.effective(), 7);
        x.acknowledge();
        x.tick(2);
        CHECKS.due("15: goes on", x.effective(), 9);
        x.sense(1, 451);
        x.tick(3);
        CHECKS.due("15: commands count, tripped or not", x.effective(), 12);
        CHECKS.due("14: tripped", x.outputs(), 0);
        x.sense(1, 100);
        x.sense(2, 700);
        x.tick(2);
        CHECKS.due("14: hot raw value", x.outputs(), 7);
        CHECKS.due("15: BYPASS of the protective channel", x.effective(), 14);
        x.next();
        x.tick(1);
        CHECKS.due("15: stays in 4", x.effective(), 14);
    }

    private static void wantedVolume() {
        // 33 ml in 600 ticks: 55 microlitres a tick, so 500 at the tenth (550), 1000 at the 19th (1045).
        BloodCircuitChannels x = Checks.inPhase(3, 33, 1);
        int strokes = 0;
        for (int e = 1; e <= 100; e++) {
            x.tick(1);
            boolean stroke = 55 * e >= 500 * strokes + 500;
            strokes += stroke ? 1 : 0;
            CHECKS.due("14: effective tick " + e, x.outputs(), stroke ? 11 : 3);
            CHECKS.due("16: effective tick " + e, x.accounted(), 500 * strokes);
        }
        CHECKS.due("17: eleven", x.strokes(), 11);
        // 1 ml in 600 ticks: 500 microlitres exactly at tick 300, 1000 at tick 600.
        x = Checks.inPhase(3, 1, 1);
        x.tick(299);
        CHECKS.due("16: 498 wanted", x.accounted(), 0);
        x.tick(1);
        CHECKS.due("16: 500 wanted", x.accounted(), 500);
        CHECKS.due("14: stroke", x.outputs(), 11);
        x.tick(299);
        CHECKS.due("16: 998 wanted", x.accounted(), 500);
        x.tick(1);
        CHECKS.due("16: 1000 wanted", x.accounted(), 1000);
        CHECKS.due("11: ended", x.phase(), 4);
        // 7 ml in 1800 ticks: 500 is wanted from e = 129 on (501.67 rounded down), 497.78 is not enough.
        x = Checks.inPhase(3, 7, 3);
        x.tick(128);
        CHECKS.due("16: 497 wanted", x.accounted(), 0);
        x.tick(1);
        CHECKS.due("16: 501 wanted", x.accounted(), 500);
    }

    private static void largestVolume() {
        // 6000 ml in 180 minutes, the shortest that 2000 ml an hour allows: 55.5 microlitres a tick.
        BloodCircuitChannels x = Checks.inPhase(3, 6000, 180);
        for (int k = 0; k < 180; k++) {
            x.tick(600);
        }
        CHECKS.due("11: ended", x.phase(), 4);
        CHECKS.due("15: all", x.effective(), 108000);
        CHECKS.due("16: all", x.accounted(), 6000000);
        CHECKS.due("17: all", x.strokes(), 12000);
        // The longest one goes far beyond the range of int in its products; 490 of its 600 minutes fit in 512 calls.
        x = Checks.inPhase(3, 6000, 600);
        for (int k = 0; k < 490; k++) {
            x.tick(600);
        }
        CHECKS.due("16: after 490 of 600 minutes", x.accounted(), 4900000);
        CHECKS.due("17: after 490 of 600 minutes", x.strokes(), 9800);
        CHECKS.due("11: not ended", x.phase(), 3);
    }

    private static void substitutedByPhase() {
        for (int phase = 1; phase <= 5; phase++) {
            for (int commands = 0; commands <= 15; commands++) {
                BloodCircuitChannels x = Checks.inPhase(phase, 10, 10);
                CHECKS.due("9: substitute " + commands, x.substitute(commands), true);
                x.tick(1);
                int want = phase == 3 ? commands : commands & 7;
                CHECKS.due("14: " + commands + " in phase " + phase, x.outputs(), want);
                CHECKS.due("17: " + commands + " in phase " + phase, x.strokes(), want >> 3);
            }
        }
        BloodCircuitChannels x = new BloodCircuitChannels();
        x.substitute(15);
        CHECKS.due("14: not before the tick", x.outputs(), 0);
        x.tick(20);
        CHECKS.due("14: in phase 0", x.outputs(), 7);
        x.next();
        x.tick(100);
        CHECKS.due("14: still in phase 1", x.outputs(), 7);
        CHECKS.due("9: not any more", x.substitute(-1), true);
        x.next();
        x.next();
        x.tick(1);
        CHECKS.due("14: own commands", x.outputs(), 3);
    }

    private static void refusedSubstitution() {
        BloodCircuitChannels x = new BloodCircuitChannels();
        x.substitute(9);
        int[] wrong = {-2, 16, 17, Integer.MIN_VALUE, Integer.MAX_VALUE};
        for (int commands : wrong) {
            CHECKS.due("9: substitute " + commands, x.substitute(commands), false);
        }
        x.tick(1);
        CHECKS.due("14: as before", x.outputs(), 1);
        x.substitute(0);
        x.tick(1);
        CHECKS.due("14: none", x.outputs(), 0);
        x.substitute(-1);
        x.tick(1);
        CHECKS.due("14: own", x.outputs(), 4);
    }

    private static void substitutionChangesNoCounts() {
        BloodCircuitChannels x = Checks.inPhase(3, 33, 1);
        x.substitute(4);
        x.tick(10);
        CHECKS.due("15: counted", x.effective(), 10);
        CHECKS.due("16: commanded, not made", x.accounted(), 500);
        CHECKS.due("17: commanded, not made", x.strokes(), 0);
        x.substitute(8);
        x.sense(2, 400);
        x.tick(3);
        CHECKS.due("15: not effective", x.effective(), 10);
        CHECKS.due("16: not accounted", x.accounted(), 500);
        CHECKS.due("17: made", x.strokes(), 3);
    }

    private static void tripEdges() {
        int[][] rows = { // sensor, raw value, whether it trips
            {0, -350, 0}, {0, -351, 1}, {0, 250, 0}, {0, 251, 1}, {0, Integer.MIN_VALUE, 1}, {0, Integer.MAX_VALUE, 1},
            {1, -50, 0}, {1, -51, 1}, {1, 450, 0}, {1, 451, 1}, {1, Integer.MIN_VALUE, 1}, {1, Integer.MAX_VALUE, 1},
            {4, 0, 0}, {4, 1, 1}, {4, 2, 1}, {4, -1, 1}, {4, Integer.MIN_VALUE, 1}, {4, Integer.MAX_VALUE, 1},
            {2, 9999, 0}, {3, 9999, 0}, {5, 9999, 0},
        };
        for (int[] row : rows) {
            BloodCircuitChannels x = Checks.inPhase(2);
            x.sense(row[0], row[1]);
            x.substitute(15);
            x.tick(1);
            CHECKS.due("18: sensor " + row[0] + " at " + row[1], x.trips(), row[2]);
            CHECKS.due("14: sensor " + row[0] + " at " + row[1], x.outputs(), row[2] == 1 ? 4 : 7);
        }
    }

    private static void tripsByPhase() {
        for (int phase = 1; phase <= 5; phase++) {
            BloodCircuitChannels x = Checks.inPhase(phase, 33, 1);
            x.sense(0, 251);
            x.substitute(15);
            x.tick(5);
            boolean connected = phase >= 2 && phase <= 4;
            CHECKS.due("18: phase " + phase, x.trips(), connected ? 5 : 0);
            CHECKS.due("14: phase " + phase, x.outputs(), connected ? 4 : 7);
            CHECKS.due("17: phase " + phase, x.strokes(), 0);
        }
        BloodCircuitChannels x = new BloodCircuitChannels();
        x.sense(4, 1);
        x.tick(20);
        CHECKS.due("18: phase 0", x.trips(), 0);
        x = Checks.inPhase(3, 33, 1);
        x.tick(9);
        x.sense(0, 251);
        x.tick(1);
        CHECKS.due("16: commanded", x.accounted(), 500);
        CHECKS.due("17: tripped", x.strokes(), 0);
        CHECKS.due("14: tripped", x.outputs(), 0);
        x.sense(0, 250);
        x.sense(1, 451);
        x.sense(4, 1);
        x.tick(1);
        CHECKS.due("18: one a tick", x.trips(), 2);
    }

    private static void hotFluid() {
        for (int phase = 1; phase <= 5; phase++) {
            BloodCircuitChannels x = Checks.inPhase(phase);
            x.substitute(0);
            x.sense(2, 410);
            x.tick(1);
            CHECKS.due("14: 410 in " + phase, x.outputs(), 0);
            x.sense(2, 411);
            x.tick(1);
            CHECKS.due("14: 411 in " + phase, x.outputs(), phase == 3 ? 4 : 0);
            x.sense(2, Integer.MAX_VALUE);
            x.tick(1);
            CHECKS.due("14: hot in " + phase, x.outputs(), phase == 3 ? 4 : 0);
        }
        BloodCircuitChannels x = Checks.inPhase(3, 33, 1);
        x.substitute(11);
        x.sense(2, 411);
        x.tick(1);
        CHECKS.due("14: BYPASS beside the rest", x.outputs(), 15);
        CHECKS.due("18: no trip", x.trips(), 0);
        CHECKS.due("17: STROKE beside BYPASS", x.strokes(), 1);
    }

    private static void strokesHaveALimit() {
        int[] volumes = {0, 1, 2, 9};
        for (int volume : volumes) {
            BloodCircuitChannels x = Checks.inPhase(3, volume, 1);
            x.substitute(8);
            int most = 2 * volume + 1;
            x.tick(most);
            CHECKS.due("14: last stroke of " + volume, x.outputs(), 8);
            CHECKS.due("17: most strokes of " + volume, x.strokes(), most);
            x.tick(10);
            CHECKS.due("14: no more for " + volume, x.outputs(), 0);
            CHECKS.due("17: no more for " + volume, x.strokes(), most);
        }
        BloodCircuitChannels x = Checks.inPhase(3, 6000, 200);
        x.substitute(8);
        for (int k = 0; k < 21; k++) {
            x.tick(600);
        }
        CHECKS.due("17: most strokes of 6000", x.strokes(), 12001);
    }
}
