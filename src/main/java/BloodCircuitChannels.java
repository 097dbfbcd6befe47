/** The control channel and the protective channel of a machine that cleans blood outside of the body. */
public final class BloodCircuitChannels {
    private static final int REFUSED = -1;
    private static final int MOST_TICKS_A_CALL = 600;

    // Parameters; FLOW, number 0, is kept for its reader alone, so it needs no name here.
    private static final int VOLUME = 1;
    private static final int RATE = 2;
    private static final int MINUTES = 3;
    private static final int TEMPERATURE = 4;
    private static final int CONDUCTIVITY = 5;
    private static final int A_LOW = 6;
    private static final int A_HIGH = 7;
    private static final int V_LOW = 8;
    private static final int V_HIGH = 9;
    private static final int PARAMETERS = 10;
    private static final int[] PARAMETER_LEAST = {50, 0, 0, 1, 340, 1250, -400, -300, 0, 50};
    private static final int[] PARAMETER_GREATEST = {600, 6000, 2000, 600, 390, 1600, 0, 200, 200, 500};
    private static final int[] PARAMETER_AT_FIRST = {300, 0, 1000, 240, 370, 1400, -200, 100, 50, 300};
    private static final int LEAST_LIMIT_GAP = 20;

    private static final int ARTERIAL_SENSOR = 0;
    private static final int VENOUS_SENSOR = 1;
    private static final int TEMPERATURE_SENSOR = 2;
    private static final int CONDUCTIVITY_SENSOR = 3;
    private static final int AIR_SENSOR = 4;
    private static final int LEAK_SENSOR = 5;
    private static final int SENSORS = 6;
    private static final int[] SENSOR_LEAST = {-700, -200, 0, 0, 0, 0};
    private static final int[] SENSOR_GREATEST = {500, 800, 600, 3000, 1, 1};
    private static final int[] SENSOR_AT_FIRST = {0, 100, 370, 1400, 0, 0};
    private static final int TICKS_TO_FAULTY = 3;

    private static final int PREPARING = 0;
    private static final int PRIMING = 1;
    private static final int CONNECTING = 2;
    private static final int TREATING = 3;
    private static final int RETURNING = 4;
    private static final int EMPTYING = 5;
    private static final int DONE = 6;
    private static final int STEADY_TICKS_TO_PRIME = 20;
    private static final int TICKS_TO_PRIME = 100;
    private static final int TICKS_TO_RETURN = 50;
    private static final int TICKS_TO_EMPTY = 30;

    private static final int ARTERIAL = 1;
    private static final int VENOUS = 2;
    private static final int AIR = 4;
    private static final int LEAK = 8;
    private static final int FLUID = 16;
    private static final int SENSOR = 32;
    private static final int STOPPING = ARTERIAL | VENOUS | AIR | LEAK | SENSOR;
    private static final int CLAMPING = VENOUS | AIR | SENSOR;
    private static final int TICKS_TO_PRESSURE_ALARM = 30;
    private static final int TICKS_TO_FLUID_ALARM = 600;
    private static final int TEMPERATURE_TOLERANCE = 5;
    private static final int CONDUCTIVITY_TOLERANCE = 40;

    private static final int PUMP = 1;
    private static final int CLAMP_OPEN = 2;
    private static final int BYPASS = 4;
    private static final int STROKE = 8;
    private static final int ALL_COMMANDS = PUMP | CLAMP_OPEN | BYPASS | STROKE;
    private static final int NOT_SUBSTITUTED = -1;

    private static final int TICKS_A_MINUTE = 600;
    private static final int MICROLITRES_A_MILLILITRE = 1000;
    private static final int MICROLITRES_A_STROKE = 500;

    private static final int TRIP_ARTERIAL_LEAST = -350;
    private static final int TRIP_ARTERIAL_GREATEST = 250;
    private static final int TRIP_VENOUS_LEAST = -50;
    private static final int TRIP_VENOUS_GREATEST = 450;
    private static final int GREATEST_SAFE_TEMPERATURE = 410;

    private final int[] parameters;
    private final int[] raw;
    private final int[] conditioned;
    private final int[] implausibleTicks;
    private int phase;
    private int alarms;
    private int conditions;
    private int outputs;
    private int substituted;
    private int effective;
    private int accounted;
    private int strokes;
    private int trips;
    private int counted;
    private int steadyTicks;
    private int fluidOffTicks;
    private int arterialOutTicks;
    private int venousOutTicks;

    public BloodCircuitChannels() {
        parameters = PARAMETER_AT_FIRST.clone();
        raw = SENSOR_AT_FIRST.clone();
        conditioned = SENSOR_AT_FIRST.clone();
        implausibleTicks = new int[SENSORS];
        phase = PREPARING;
        substituted = NOT_SUBSTITUTED;
    }

    public boolean set(int k, int v) {
        if (!isParameter(k) || phase != PREPARING || isOutside(v, PARAMETER_LEAST[k], PARAMETER_GREATEST[k])) {
            return false;
        }
        parameters[k] = v;
        return true;
    }

    public int parameter(int k) {
        return isParameter(k) ? parameters[k] : 0;
    }

    public boolean sense(int k, int v) {
        if (!isSensor(k)) {
            return false;
        }
        raw[k] = v;
        return true;
    }

    public int conditioned(int k) {
        return isSensor(k) ? conditioned[k] : 0;
    }

    public boolean faulty(int k) {
        return isSensor(k) && implausibleTicks[k] >= TICKS_TO_FAULTY;
    }

    public int next() {
        if (!mayLeavePhase()) {
            return REFUSED;
        }
        beginPhase(phase == DONE ? PREPARING : phase + 1);
        return phase;
    }

    public int acknowledge() {
        alarms &= conditions;
        return alarms;
    }

    public boolean substitute(int commands) {
        if (isOutside(commands, NOT_SUBSTITUTED, ALL_COMMANDS)) {
            return false;
        }
        substituted = commands;
        return true;
    }

    public int tick(int n) {
        if (isOutside(n, 1, MOST_TICKS_A_CALL)) {
            return REFUSED;
        }
        for (int made = 1; made <= n; made++) {
            if (makeTick()) {
                return made;
            }
        }
        return n;
    }

    public int phase() {
        return phase;
    }

    public int alarms() {
        return alarms;
    }

    public int conditions() {
        return conditions;
    }

    public int outputs() {
        return outputs;
    }

    public int effective() {
        return effective;
    }

    public int accounted() {
        return accounted;
    }

    public int strokes() {
        return strokes;
    }

    public int trips() {
        return trips;
    }

    public int counted() {
        return counted;
    }

    public int steady() {
        return steadyTicks;
    }

    private static boolean isParameter(int k) {
        return k >= 0 && k < PARAMETERS;
    }

    private static boolean isSensor(int k) {
        return k >= 0 && k < SENSORS;
    }

    private static boolean isOutside(int value, int least, int greatest) {
        return value < least || value > greatest;
    }

    private boolean mayLeavePhase() {
        switch (phase) {
            case PREPARING:
                return areConsistent() && steadyTicks >= STEADY_TICKS_TO_PRIME && alarms == 0;
            case PRIMING:
                return counted >= TICKS_TO_PRIME;
            case CONNECTING:
                return alarms == 0;
            case RETURNING:
                return counted >= TICKS_TO_RETURN;
            case EMPTYING:
                return counted >= TICKS_TO_EMPTY;
            default:
                return true;
        }
    }

    private boolean areConsistent() {
        return parameters[A_LOW] + LEAST_LIMIT_GAP <= parameters[A_HIGH]
                && parameters[V_LOW] + LEAST_LIMIT_GAP <= parameters[V_HIGH]
                && 60 * parameters[VOLUME] <= parameters[RATE] * parameters[MINUTES];
    }

    private void beginPhase(int begun) {
        phase = begun;
        counted = 0;
        if (begun == TREATING) {
            effective = 0;
            accounted = 0;
            strokes = 0;
        }
    }

    /** Answers whether the ticks of a call end with this one. */
    private boolean makeTick() {
        int alarmsBefore = alarms;
        int phaseBefore = phase;
        conditionSensors();
        countTicksInARow();
        conditions = conditionsNow();
        alarms |= conditions;
        int commands = commandsOfControl();
        outputs = afterProtection(substituted == NOT_SUBSTITUTED ? commands : substituted);
        if ((outputs & STROKE) != 0) {
            strokes++;
        }
        countTowardsEnd();
        return alarms != alarmsBefore || phase != phaseBefore;
    }

    private void conditionSensors() {
        for (int k = 0; k < SENSORS; k++) {
            if (isOutside(raw[k], SENSOR_LEAST[k], SENSOR_GREATEST[k])) {
                implausibleTicks[k]++;
            } else {
                implausibleTicks[k] = 0;
                conditioned[k] = raw[k];
            }
        }
    }

    private void countTicksInARow() {
        boolean connected = isConnected();
        boolean arterialOut = isOutside(conditioned[ARTERIAL_SENSOR], parameters[A_LOW], parameters[A_HIGH]);
        boolean venousOut = isOutside(conditioned[VENOUS_SENSOR], parameters[V_LOW], parameters[V_HIGH]);
        boolean fluidOff = isFluidOff();
        arterialOutTicks = connected && arterialOut ? arterialOutTicks + 1 : 0;
        venousOutTicks = connected && venousOut ? venousOutTicks + 1 : 0;
        fluidOffTicks = fluidOff ? fluidOffTicks + 1 : 0;
        steadyTicks = fluidOff ? 0 : steadyTicks + 1;
    }

    /** Whether the phase is one in which the patient hangs on the circuit. */
    private boolean isConnected() {
        return phase >= CONNECTING && phase <= RETURNING;
    }

    private boolean isFluidOff() {
        return Math.abs(conditioned[TEMPERATURE_SENSOR] - parameters[TEMPERATURE]) > TEMPERATURE_TOLERANCE
                || Math.abs(conditioned[CONDUCTIVITY_SENSOR] - parameters[CONDUCTIVITY]) > CONDUCTIVITY_TOLERANCE;
    }

    private int conditionsNow() {
        return (arterialOutTicks >= TICKS_TO_PRESSURE_ALARM ? ARTERIAL : 0)
                | (venousOutTicks >= TICKS_TO_PRESSURE_ALARM ? VENOUS : 0)
                | (isConnected() && conditioned[AIR_SENSOR] == 1 ? AIR : 0)
                | (phase == TREATING && conditioned[LEAK_SENSOR] == 1 ? LEAK : 0)
                | (fluidOffTicks >= TICKS_TO_FLUID_ALARM ? FLUID : 0)
                | (isSomeSensorFaulty() ? SENSOR : 0);
    }

    private boolean isSomeSensorFaulty() {
        for (int k = 0; k < SENSORS; k++) {
            if (implausibleTicks[k] >= TICKS_TO_FAULTY) {
                return true;
            }
        }
        return false;
    }

    private int commandsOfControl() {
        boolean running = phase >= PRIMING && phase <= RETURNING;
        boolean pump = running && (alarms & STOPPING) == 0;
        boolean clampOpen = running && (alarms & CLAMPING) == 0;
        boolean bypass = phase != TREATING || fluidOffTicks > 0 || (alarms & LEAK) != 0;
        boolean stroke = false;
        // Without bypass the phase is TREATING, so this tick is effective.
        if (pump && !bypass) {
            effective++;
            stroke = isStrokeWanted();
        }
        if (stroke) {
            accounted += MICROLITRES_A_STROKE;
        }
        return (pump ? PUMP : 0) | (clampOpen ? CLAMP_OPEN : 0) | (bypass ? BYPASS : 0) | (stroke ? STROKE : 0);
    }

    /**
     * The wanted volume is a quotient rounded down; it is at least a whole number just when the dividend is at least
     * that number times the divisor, so nothing needs to be divided.
     */
    private boolean isStrokeWanted() {
        long dividend = (long) parameters[VOLUME] * MICROLITRES_A_MILLILITRE * effective;
        return dividend >= (long) (accounted + MICROLITRES_A_STROKE) * ticksOfTreatment();
    }

    private int ticksOfTreatment() {
        return TICKS_A_MINUTE * parameters[MINUTES];
    }

    /** The protective channel: it trusts raw values alone, and neither alarms nor what the control channel counted. */
    private int afterProtection(int commands) {
        int left = commands;
        if (isConnected() && isRawDangerous()) {
            trips++;
            left &= ~(PUMP | CLAMP_OPEN | STROKE);
        }
        if (phase == TREATING && raw[TEMPERATURE_SENSOR] > GREATEST_SAFE_TEMPERATURE) {
            left |= BYPASS;
        }
        if (phase != TREATING || isStrokeTooMuch()) {
            left &= ~STROKE;
        }
        return left;
    }

    private boolean isRawDangerous() {
        return raw[AIR_SENSOR] != 0
                || isOutside(raw[ARTERIAL_SENSOR], TRIP_ARTERIAL_LEAST, TRIP_ARTERIAL_GREATEST)
                || isOutside(raw[VENOUS_SENSOR], TRIP_VENOUS_LEAST, TRIP_VENOUS_GREATEST);
    }

    private boolean isStrokeTooMuch() {
        return (strokes + 1) * MICROLITRES_A_STROKE
                > parameters[VOLUME] * MICROLITRES_A_MILLILITRE + MICROLITRES_A_STROKE;
    }

    private void countTowardsEnd() {
        boolean pumpCounts = phase == PRIMING || phase == RETURNING;
        if (phase == EMPTYING || (pumpCounts && (outputs & PUMP) != 0)) {
            counted++;
        }
        if (phase == TREATING && effective >= ticksOfTreatment()) {
            beginPhase(RETURNING);
        }
    }
}
