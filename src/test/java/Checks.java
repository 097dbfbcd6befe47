/** Counts the answers that are not as due, and leads objects to where a test begins. */
final class Checks {
    private int wrong = 0;
    private int asked = 0;

    void due(String what, long got, long want) {
        asked++;
        if (got != want) {
            wrong++;
            System.out.println(what + ": answered " + got + ", due is " + want);
        }
    }

    void due(String what, boolean got, boolean want) {
        due(what, got ? 1L : 0L, want ? 1L : 0L);
    }

    void end() {
        System.out.println(asked + " answers, " + wrong + " not as due");
        if (wrong != 0) {
            System.exit(1);
        }
    }

    /** An object in the phase 1 .. 5, that got there without alarm, trip, effective tick or stroke. */
    static BloodCircuitChannels inPhase(int phase, int volume, int minutes) {
        BloodCircuitChannels x = new BloodCircuitChannels();
        x.set(1, volume);
        x.set(2, 2000);
        x.set(3, minutes);
        x.tick(20);
        x.next();
        if (phase >= 2) {
            x.tick(100);
            x.next();
        }
        if (phase >= 3) {
            x.next();
        }
        if (phase >= 4) {
            x.next();
        }
        if (phase >= 5) {
            x.tick(50);
            x.next();
        }
        if (x.phase() != phase) {
            throw new IllegalStateException("led to " + x.phase() + " instead of " + phase);
        }
        return x;
    }

    static BloodCircuitChannels inPhase(int phase) {
        return inPhase(phase, 0, 240);
    }
}
