/**
 * A tempering line for glass: sheets are heated zone by zone, quenched, and can break; the line
 * learns from breakage, and a guard tells beforehand whether a sheet would come through.
 */
public final class TemperingLine {
    public static final int SYNTAX_ERROR = -2;
    public static final int OUT_OF_RANGE = -3;
    public static final int TOO_MANY = -4;
    public static final int TOO_DEEP = -5;
    public static final int WAITING = 0;
    public static final int HEATED = 1;
    public static final int QUENCHED = 2;
    public static final int DONE = 3;
    public static final int BROKEN = 4;
    public static final int SPOILED = 5;

    private static final int MAX_BYTES = 700;
    private static final int BYTES_PER_APPEND = 20;
    private static final int MAX_ZONES = 6;
    private static final int MAX_SHEETS = 20;
    private static final int MAX_CHANGES = 8;
    private static final int MAX_CLOCK = 100000;
    private static final int MAX_MEASURE = 9999;
    private static final int MAX_RUN = 60;
    private static final int MAX_PREDICTION = 300;
    private static final int BEST_SETPOINT_TICKS = 200;
    private static final int MIN_THICKNESS = 2;
    private static final int MAX_THICKNESS = 19;
    private static final int THICKNESS_ROW = MAX_THICKNESS + 1;
    private static final int MIN_TEMPERATURE = 20;
    private static final int MAX_TEMPERATURE = 900;
    private static final int MIN_SETPOINT = 100;
    private static final int MAX_CORRECTION = 50;
    private static final int MAX_HEAT = 1000;
    private static final int EMPTY = -1;
    private static final int NO_BAND = -1;

    private final SetupReader reader;
    private final Line line;
    private final Line trial;
    private final History history;

    public TemperingLine() {
        Setup none = new Setup();
        reader = new SetupReader();
        line = new Line(none);
        trial = new Line(none);
        history = new History(none);
    }

    public int append(int w0, int w1, int w2, int w3, int w4) {
        if (reader.filled + BYTES_PER_APPEND > MAX_BYTES) {
            return -1;
        }
        reader.putWord(w0);
        reader.putWord(w1);
        reader.putWord(w2);
        reader.putWord(w3);
        reader.putWord(w4);
        return reader.filled;
    }

    public int load(int length) throws IllegalArgumentException {
        requireArgument(length, 0, reader.filled);
        reader.begin(length);
        if (!reader.readHeader() || !reader.readStatements()) {
            return reader.errorCode;
        }
        history.remember(line);
        line.startWith(reader.setup);
        return line.setup.zones;
    }

    public int errorOffset() {
        return reader.errorStart;
    }

    public int zoneCount() {
        return line.setup.zones;
    }

    public int sheetCount() {
        return line.sheets;
    }

    public int clock() {
        return line.time;
    }

    public int zone(int zone, int what) throws IndexOutOfBoundsException, IllegalArgumentException {
        requireIndex(zone, line.setup.zones);
        switch (what) {
            case 0:
                return line.setpoints[zone];
            case 1:
                return line.setup.powers[zone];
            case 2:
                return line.setup.capacities[zone];
            case 3:
                return line.setup.lowers[zone];
            case 4:
                return line.setup.uppers[zone];
            case 5:
                return line.zoneTemperatures[zone];
            case 6:
                return line.holders[zone];
            default:
                throw new IllegalArgumentException("what is not 0 to 6");
        }
    }

    public int thickness(int sheet) throws IndexOutOfBoundsException {
        requireIndex(sheet, line.sheets);
        return line.thicknesses[sheet];
    }

    public int temperature(int sheet) throws IndexOutOfBoundsException {
        requireIndex(sheet, line.sheets);
        return line.sheetTemperatures[sheet];
    }

    public int state(int sheet) throws IndexOutOfBoundsException {
        requireIndex(sheet, line.sheets);
        return line.states[sheet];
    }

    public int quenched() {
        return line.quenchSheet;
    }

    public int quenchLeft() {
        return line.quenchTicks;
    }

    public int count(int state) throws IllegalArgumentException {
        requireArgument(state, WAITING, SPOILED);
        return line.sheetsIn(state);
    }

    public int learned(int thickness, int what) throws IllegalArgumentException {
        requireArgument(thickness, MIN_THICKNESS, MAX_THICKNESS);
        switch (what) {
            case 0:
                return line.passed[thickness];
            case 1:
                return line.coldBreaks[thickness];
            case 2:
                return line.hotBreaks[thickness];
            case 3:
                return line.corrections[thickness];
            case 4:
                return line.setup.bandLows[thickness];
            case 5:
                return line.setup.bandHighs[thickness];
            default:
                throw new IllegalArgumentException("what is not 0 to 5");
        }
    }

    public int risk(int thickness) throws IllegalArgumentException {
        requireArgument(thickness, MIN_THICKNESS, MAX_THICKNESS);
        int breaks = line.coldBreaks[thickness] + line.hotBreaks[thickness];
        int all = breaks + line.passed[thickness];
        return all > 0 ? 1000 * breaks / all : -1;
    }

    public int recognise(int weight, int area) throws IllegalArgumentException {
        requireArgument(weight, 1, MAX_MEASURE);
        requireArgument(area, 1, MAX_MEASURE);
        int thickness = thicknessOf(weight, area);
        return isThickness(thickness) ? thickness : -1;
    }

    public int guard(int thickness) throws IllegalArgumentException {
        requireArgument(thickness, MIN_THICKNESS, MAX_THICKNESS);
        if (!line.exists()) {
            return -1;
        }
        trial.copyFrom(line);
        trial.holdOnly(thickness);
        int ticks = trial.ticksToFinish(MAX_PREDICTION);
        return trial.sheetsIn(DONE) == 1 ? ticks : -1;
    }

    public int finishTime(int limit) throws IllegalArgumentException {
        requireArgument(limit, 0, MAX_PREDICTION);
        trial.copyFrom(line);
        return trial.ticksToFinish(limit);
    }

    public int stateAfter(int sheet, int ticks)
            throws IndexOutOfBoundsException, IllegalArgumentException {
        requireIndex(sheet, line.sheets);
        requireArgument(ticks, 0, MAX_PREDICTION);
        trial.copyFrom(line);
        // No sheet changes its state once all have ended, so the ticks after that can be left out.
        trial.ticksToFinish(ticks);
        return trial.states[sheet];
    }

    public int bestSetpoint() {
        if (!line.exists()) {
            return -1;
        }
        int present = line.setpoints[line.setup.zones - 1];
        int best = present;
        int most = doneWith(present);
        // The nearest first and the lower before the higher: a later one must be truly better.
        for (int distance = 10; distance <= 30; distance += 10) {
            for (int sign = -1; sign <= 1; sign += 2) {
                int candidate = present + sign * distance;
                if (isWithin(candidate, MIN_SETPOINT, MAX_TEMPERATURE)) {
                    int done = doneWith(candidate);
                    if (done > most) {
                        most = done;
                        best = candidate;
                    }
                }
            }
        }
        return best;
    }

    public int add(int weight, int area) throws IllegalArgumentException, IllegalStateException {
        requireArgument(weight, 1, MAX_MEASURE);
        requireArgument(area, 1, MAX_MEASURE);
        int thickness = thicknessOf(weight, area);
        requireArgument(thickness, MIN_THICKNESS, MAX_THICKNESS);
        requireLine();
        if (line.sheets >= MAX_SHEETS) {
            throw new IllegalStateException("there have been 20 sheets");
        }
        history.remember(line);
        return line.putSheet(thickness);
    }

    public int run(int ticks) throws IllegalArgumentException, IllegalStateException {
        requireArgument(ticks, 1, MAX_RUN);
        requireLine();
        if (line.time + ticks > MAX_CLOCK) {
            throw new IllegalStateException("the clock would exceed 100000");
        }
        history.remember(line);
        int before = line.sheetsIn(DONE);
        for (int i = 0; i < ticks; i++) {
            line.tick();
        }
        return line.sheetsIn(DONE) - before;
    }

    public int setPoint(int zone, int setpoint)
            throws IndexOutOfBoundsException, IllegalArgumentException {
        requireIndex(zone, line.setup.zones);
        requireArgument(setpoint, MIN_SETPOINT, MAX_TEMPERATURE);
        history.remember(line);
        int previous = line.setpoints[zone];
        line.setpoints[zone] = setpoint;
        return previous;
    }

    public int setCorrection(int thickness, int correction)
            throws IllegalArgumentException, IllegalStateException {
        requireArgument(thickness, MIN_THICKNESS, MAX_THICKNESS);
        requireArgument(correction, -MAX_CORRECTION, MAX_CORRECTION);
        requireLine();
        history.remember(line);
        int previous = line.corrections[thickness];
        line.corrections[thickness] = correction;
        return previous;
    }

    public int scrap(int sheet) throws IndexOutOfBoundsException, IllegalStateException {
        requireIndex(sheet, line.sheets);
        int previous = line.states[sheet];
        if (previous != WAITING && previous != HEATED) {
            throw new IllegalStateException("the sheet is neither WAITING nor HEATED");
        }
        history.remember(line);
        line.spoil(sheet);
        return previous;
    }

    public int undo() {
        return history.restoreLatest(line);
    }

    public long checksum() {
        return line.digest();
    }

    /** How many sheets of the line are DONE in time if its last zone gets this setpoint. */
    private int doneWith(int setpoint) {
        trial.copyFrom(line);
        if (trial.exists()) {
            trial.setpoints[trial.setup.zones - 1] = setpoint;
        }
        trial.ticksToFinish(BEST_SETPOINT_TICKS);
        return trial.sheetsIn(DONE);
    }

    private void requireLine() throws IllegalStateException {
        if (!line.exists()) {
            throw new IllegalStateException("there is no line");
        }
    }

    private static void requireArgument(int value, int low, int high)
            throws IllegalArgumentException {
        if (!isWithin(value, low, high)) {
            throw new IllegalArgumentException("an argument is out of range");
        }
    }

    private static void requireIndex(int index, int size) throws IndexOutOfBoundsException {
        if (index < 0 || index >= size) {
            throw new IndexOutOfBoundsException("there is no such zone or sheet");
        }
    }

    private static boolean isWithin(int value, int low, int high) {
        return value >= low && value <= high;
    }

    private static boolean isThickness(int value) {
        return isWithin(value, MIN_THICKNESS, MAX_THICKNESS);
    }

    private static int limit(int value, int low, int high) {
        return value < low ? low : value > high ? high : value;
    }

    private static int thicknessOf(int weight, int area) {
        return area > 0 ? (40 * weight + area / 2) / area : 0;
    }

    /** What one setup text fixes until the next load; it is not changed once it has been read. */
    private static final class Setup {
        private int zones;
        private int quenchTime;
        private int learningStep;
        private final int[] setpoints;
        private final int[] powers;
        private final int[] capacities;
        private final int[] lowers;
        private final int[] uppers;
        private final int[] bandLows;
        private final int[] bandHighs;
        private Heat heat;

        private Setup() {
            setpoints = new int[MAX_ZONES];
            powers = new int[MAX_ZONES];
            capacities = new int[MAX_ZONES];
            lowers = new int[MAX_ZONES];
            uppers = new int[MAX_ZONES];
            bandLows = new int[THICKNESS_ROW];
            bandHighs = new int[THICKNESS_ROW];
            for (int i = 0; i < THICKNESS_ROW; i++) {
                bandLows[i] = NO_BAND;
                bandHighs[i] = NO_BAND;
            }
            int[] usual = {400, Heat.THICKNESS, Heat.DIVIDE};
            heat = new Heat(usual, usual.length);
        }
    }

    /** A heat expression as steps for a stack: a number from 0 on stands for itself. */
    private static final class Heat {
        private static final int PLUS = -1;
        private static final int MINUS = -2;
        private static final int TIMES = -3;
        private static final int DIVIDE = -4;
        private static final int THICKNESS = -5;
        private static final int ZONE = -6;
        private static final int GAP = -7;
        private static final int MAX_RESULT = 1000000;
        // Each of the 5 levels keeps at most a sum and a term waiting; the newest factor is on top.
        private static final int STACK_SIZE = 11;

        private final int[] steps;
        private final int[] stack;

        private Heat(int[] source, int length) {
            int size = limit(length, 0, source.length);
            steps = new int[size];
            System.arraycopy(source, 0, steps, 0, size);
            stack = new int[STACK_SIZE];
        }

        private int valueFor(int thickness, int zone, int gap) {
            int top = 0;
            for (int i = 0; i < steps.length; i++) {
                int step = steps[i];
                if (step < 0 && step >= DIVIDE) {
                    if (top >= 2) {
                        top--;
                        stack[top - 1] = result(step, stack[top - 1], stack[top]);
                    }
                } else if (top < STACK_SIZE) {
                    stack[top] = step >= 0 ? step
                            : step == THICKNESS ? thickness : step == ZONE ? zone : gap;
                    top++;
                }
            }
            return stack[0];
        }

        private static int result(int operation, int left, int right) {
            // A product of two limited values does not fit into an int.
            long exact = 0;
            switch (operation) {
                case PLUS:
                    exact = (long) left + right;
                    break;
                case MINUS:
                    exact = (long) left - right;
                    break;
                case TIMES:
                    exact = (long) left * right;
                    break;
                default:
                    exact = right == 0 ? 0 : (long) left / right;
                    break;
            }
            return exact < -MAX_RESULT ? -MAX_RESULT
                    : exact > MAX_RESULT ? MAX_RESULT : (int) exact;
        }
    }

    /** The line with all that a tick or a change can alter. */
    private static final class Line {
        private Setup setup;
        private int time;
        private int sheets;
        private int quenchSheet;
        private int quenchTicks;
        private final int[] setpoints;
        private final int[] zoneTemperatures;
        private final int[] holders;
        private final int[] thicknesses;
        private final int[] sheetTemperatures;
        private final int[] states;
        private final int[] passed;
        private final int[] coldBreaks;
        private final int[] hotBreaks;
        private final int[] corrections;

        private Line(Setup none) {
            setup = none;
            quenchSheet = EMPTY;
            setpoints = new int[MAX_ZONES];
            zoneTemperatures = new int[MAX_ZONES];
            holders = new int[MAX_ZONES];
            thicknesses = new int[MAX_SHEETS];
            sheetTemperatures = new int[MAX_SHEETS];
            states = new int[MAX_SHEETS];
            passed = new int[THICKNESS_ROW];
            coldBreaks = new int[THICKNESS_ROW];
            hotBreaks = new int[THICKNESS_ROW];
            corrections = new int[THICKNESS_ROW];
        }

        private boolean exists() {
            return setup.zones > 0;
        }

        private boolean isSheet(int sheet) {
            return sheet >= 0 && sheet < sheets;
        }

        private void startWith(Setup fresh) {
            setup = fresh;
            time = 0;
            sheets = 0;
            standReady();
            for (int z = 0; z < MAX_ZONES; z++) {
                setpoints[z] = fresh.setpoints[z];
                zoneTemperatures[z] = fresh.setpoints[z];
            }
            for (int t = 0; t < THICKNESS_ROW; t++) {
                passed[t] = 0;
                coldBreaks[t] = 0;
                hotBreaks[t] = 0;
                corrections[t] = 0;
            }
        }

        /** Empties zones and quench; the sheets must be forgotten as well. */
        private void standReady() {
            quenchSheet = EMPTY;
            quenchTicks = 0;
            for (int z = 0; z < MAX_ZONES; z++) {
                holders[z] = EMPTY;
            }
        }

        /** Makes of this line the one that the guard considers. */
        private void holdOnly(int thickness) {
            standReady();
            for (int z = 0; z < MAX_ZONES; z++) {
                zoneTemperatures[z] = setpoints[z];
            }
            sheets = 0;
            putSheet(thickness);
        }

        private int putSheet(int thickness) {
            if (sheets >= MAX_SHEETS) {
                return EMPTY;
            }
            int sheet = sheets;
            thicknesses[sheet] = thickness;
            sheetTemperatures[sheet] = MIN_TEMPERATURE;
            states[sheet] = WAITING;
            sheets++;
            return sheet;
        }

        private void copyFrom(Line other) {
            setup = other.setup;
            time = other.time;
            sheets = other.sheets;
            quenchSheet = other.quenchSheet;
            quenchTicks = other.quenchTicks;
            System.arraycopy(other.setpoints, 0, setpoints, 0, MAX_ZONES);
            System.arraycopy(other.zoneTemperatures, 0, zoneTemperatures, 0, MAX_ZONES);
            System.arraycopy(other.holders, 0, holders, 0, MAX_ZONES);
            System.arraycopy(other.thicknesses, 0, thicknesses, 0, MAX_SHEETS);
            System.arraycopy(other.sheetTemperatures, 0, sheetTemperatures, 0, MAX_SHEETS);
            System.arraycopy(other.states, 0, states, 0, MAX_SHEETS);
            System.arraycopy(other.passed, 0, passed, 0, THICKNESS_ROW);
            System.arraycopy(other.coldBreaks, 0, coldBreaks, 0, THICKNESS_ROW);
            System.arraycopy(other.hotBreaks, 0, hotBreaks, 0, THICKNESS_ROW);
            System.arraycopy(other.corrections, 0, corrections, 0, THICKNESS_ROW);
        }

        private int sheetsIn(int wanted) {
            int found = 0;
            for (int s = 0; s < sheets; s++) {
                if (states[s] == wanted) {
                    found++;
                }
            }
            return found;
        }

        private boolean isFinished() {
            for (int s = 0; s < sheets; s++) {
                if (states[s] == WAITING || states[s] == HEATED || states[s] == QUENCHED) {
                    return false;
                }
            }
            return true;
        }

        /** Ticks until every sheet has ended; -1, after most ticks, if that is not enough. */
        private int ticksToFinish(int most) {
            for (int ticks = 0; ticks < most; ticks++) {
                if (isFinished()) {
                    return ticks;
                }
                tick();
            }
            return isFinished() ? most : -1;
        }

        private void tick() {
            heatZones();
            for (int z = 0; z < setup.zones; z++) {
                heatSheetIn(z);
            }
            int leaving = quench();
            if (leaving != EMPTY) {
                judge(leaving);
            }
            for (int z = setup.zones - 1; z >= 0; z--) {
                moveSheetFrom(z);
            }
            fillFirstZone();
            time++;
        }

        private void heatZones() {
            for (int z = 0; z < setup.zones; z++) {
                if (zoneTemperatures[z] < setpoints[z]) {
                    int warmer = zoneTemperatures[z] + setup.powers[z];
                    zoneTemperatures[z] = Math.min(warmer, setpoints[z]);
                }
            }
        }

        private void heatSheetIn(int zone) {
            int sheet = holders[zone];
            if (!isSheet(sheet)) {
                return;
            }
            int gap = zoneTemperatures[zone] - sheetTemperatures[sheet];
            if (gap <= 0) {
                return;
            }
            int thickness = thicknesses[sheet];
            int share = limit(setup.heat.valueFor(thickness, zone, gap), 0, MAX_HEAT);
            int rise = gap * share / MAX_HEAT;
            int capacity = setup.capacities[zone];
            int fall = capacity > 0 ? rise * thickness / capacity : 0;
            sheetTemperatures[sheet] += rise;
            zoneTemperatures[zone] = Math.max(MIN_TEMPERATURE, zoneTemperatures[zone] - fall);
        }

        /** The sheet whose time in the quench is over now, if there is one. */
        private int quench() {
            if (!isSheet(quenchSheet)) {
                return EMPTY;
            }
            quenchTicks--;
            if (quenchTicks > 0) {
                return EMPTY;
            }
            int leaving = quenchSheet;
            quenchSheet = EMPTY;
            return leaving;
        }

        /** Tells what became of a sheet that leaves the quench, and learns from it. */
        private void judge(int sheet) {
            int thickness = thicknesses[sheet];
            if (!isThickness(thickness)) {
                return;
            }
            int low = setup.bandLows[thickness];
            int high = setup.bandHighs[thickness];
            int temperature = sheetTemperatures[sheet];
            if (low != NO_BAND && temperature < low) {
                states[sheet] = BROKEN;
                coldBreaks[thickness]++;
                learn(thickness, setup.learningStep);
            } else if (high != NO_BAND && temperature > high) {
                states[sheet] = BROKEN;
                hotBreaks[thickness]++;
                learn(thickness, -setup.learningStep);
            } else {
                states[sheet] = DONE;
                passed[thickness]++;
            }
        }

        private void learn(int thickness, int change) {
            corrections[thickness] =
                    limit(corrections[thickness] + change, -MAX_CORRECTION, MAX_CORRECTION);
        }

        private void moveSheetFrom(int zone) {
            int sheet = holders[zone];
            if (!isSheet(sheet)) {
                return;
            }
            boolean last = zone == setup.zones - 1;
            int shift = last ? correctionFor(thicknesses[sheet]) : 0;
            int temperature = sheetTemperatures[sheet];
            if (temperature > setup.uppers[zone] + shift) {
                spoil(sheet);
            } else if (temperature >= setup.lowers[zone] + shift) {
                if (last) {
                    moveToQuench(zone, sheet);
                } else {
                    moveToNext(zone, sheet);
                }
            }
        }

        private int correctionFor(int thickness) {
            return isThickness(thickness) ? corrections[thickness] : 0;
        }

        private void moveToQuench(int zone, int sheet) {
            if (quenchSheet == EMPTY) {
                holders[zone] = EMPTY;
                quenchSheet = sheet;
                quenchTicks = thicknesses[sheet] * setup.quenchTime;
                states[sheet] = QUENCHED;
            }
        }

        private void moveToNext(int zone, int sheet) {
            int next = zone + 1;
            if (next < setup.zones && holders[next] == EMPTY) {
                holders[zone] = EMPTY;
                holders[next] = sheet;
            }
        }

        private void fillFirstZone() {
            if (!exists() || holders[0] != EMPTY) {
                return;
            }
            for (int s = 0; s < sheets; s++) {
                if (states[s] == WAITING) {
                    states[s] = HEATED;
                    holders[0] = s;
                    return;
                }
            }
        }

        private void spoil(int sheet) {
            states[sheet] = SPOILED;
            for (int z = 0; z < setup.zones; z++) {
                if (holders[z] == sheet) {
                    holders[z] = EMPTY;
                }
            }
        }

        private long digest() {
            long sum = time;
            for (int z = 0; z < setup.zones; z++) {
                sum = 31 * sum + setpoints[z];
                sum = 31 * sum + zoneTemperatures[z];
                sum = 31 * sum + holders[z];
            }
            sum = 31 * sum + quenchSheet;
            sum = 31 * sum + quenchTicks;
            for (int s = 0; s < sheets; s++) {
                sum = 31 * sum + thicknesses[s];
                sum = 31 * sum + sheetTemperatures[s];
                sum = 31 * sum + states[s];
            }
            for (int t = MIN_THICKNESS; t <= MAX_THICKNESS; t++) {
                sum = 31 * sum + passed[t];
                sum = 31 * sum + coldBreaks[t];
                sum = 31 * sum + hotBreaks[t];
                sum = 31 * sum + corrections[t];
            }
            return sum;
        }
    }

    /** The line as it was before each of the latest changes, in rows that are used in turn. */
    private static final class History {
        private final Line[] rows;
        private int next;
        private int kept;

        private History(Setup none) {
            rows = new Line[MAX_CHANGES];
            for (int i = 0; i < MAX_CHANGES; i++) {
                rows[i] = new Line(none);
            }
        }

        private void remember(Line line) {
            rows[next].copyFrom(line);
            next = (next + 1) % MAX_CHANGES;
            kept = Math.min(kept + 1, MAX_CHANGES);
        }

        private int restoreLatest(Line line) {
            if (kept == 0) {
                return -1;
            }
            next = (next + MAX_CHANGES - 1) % MAX_CHANGES;
            line.copyFrom(rows[next]);
            kept--;
            return kept;
        }
    }

    /** The input buffer, and the reading of a setup text from it. */
    private static final class SetupReader {
        private static final int END = 0;
        private static final int NUMBER = 1;
        private static final int WORD = 2;
        private static final int OTHER = 3;
        private static final int MAX_DEPTH = 4;
        private static final int MAX_FACTOR = 9999;
        // Above every range, so that a longer number stays out of range without an overflow.
        private static final int HUGE = 100000;

        private final byte[] bytes;
        private int filled;
        private int length;
        private int kind;
        private int start;
        private int end;
        private int number;
        private int errorCode;
        private int errorStart;
        private Setup setup;
        private boolean heatSeen;
        private final int[] steps;
        private int stepCount;

        private SetupReader() {
            bytes = new byte[MAX_BYTES];
            steps = new int[MAX_BYTES];
            errorStart = -1;
            setup = new Setup();
        }

        private void putWord(int word) {
            for (int shift = 24; shift >= 0; shift -= 8) {
                if (filled < MAX_BYTES) {
                    bytes[filled] = (byte) (word >>> shift);
                    filled++;
                }
            }
        }

        /** Empties the buffer for what is appended later, and steps to the first token. */
        private void begin(int textLength) {
            length = limit(textLength, 0, filled);
            filled = 0;
            end = 0;
            errorStart = -1;
            heatSeen = false;
            setup = new Setup();
            readToken();
        }

        private boolean fail(int code) {
            errorCode = code;
            errorStart = start;
            return false;
        }

        private boolean readHeader() {
            if (!wordIs("line")) {
                return fail(SYNTAX_ERROR);
            }
            readToken();
            if (!takeNumber(1, 9)) {
                return false;
            }
            setup.quenchTime = number;
            if (!takeNumber(0, 20)) {
                return false;
            }
            setup.learningStep = number;
            return takeSign(';');
        }

        private boolean readStatements() {
            for (int i = 0; i < length && kind != END; i++) {
                boolean read = wordIs("zone") ? readZone()
                        : wordIs("band") ? readBand()
                        : wordIs("heat") && !heatSeen ? readHeat()
                        : fail(SYNTAX_ERROR);
                if (!read || !takeSign(';')) {
                    return false;
                }
            }
            return setup.zones > 0 || fail(SYNTAX_ERROR);
        }

        private boolean readZone() {
            int zone = setup.zones;
            if (zone >= MAX_ZONES) {
                return fail(TOO_MANY);
            }
            readToken();
            if (!takeNumber(MIN_SETPOINT, MAX_TEMPERATURE)) {
                return false;
            }
            setup.setpoints[zone] = number;
            if (!takeNumber(1, 99)) {
                return false;
            }
            setup.powers[zone] = number;
            if (!takeNumber(1, 999)) {
                return false;
            }
            setup.capacities[zone] = number;
            if (!takeNumber(MIN_TEMPERATURE, MAX_TEMPERATURE)) {
                return false;
            }
            setup.lowers[zone] = number;
            if (!takeNumber(setup.lowers[zone], MAX_TEMPERATURE)) {
                return false;
            }
            setup.uppers[zone] = number;
            setup.zones++;
            return true;
        }

        private boolean readBand() {
            readToken();
            if (!takeNumber(MIN_THICKNESS, MAX_THICKNESS)) {
                return false;
            }
            int thickness = number;
            if (!takeNumber(MIN_TEMPERATURE, MAX_TEMPERATURE)) {
                return false;
            }
            int low = number;
            if (!takeNumber(low, MAX_TEMPERATURE)) {
                return false;
            }
            setup.bandLows[thickness] = low;
            setup.bandHighs[thickness] = number;
            return true;
        }

        private boolean readHeat() {
            heatSeen = true;
            stepCount = 0;
            readToken();
            if (!readSum(0)) {
                return false;
            }
            setup.heat = new Heat(steps, stepCount);
            return true;
        }

        private boolean readSum(int depth) {
            if (!readTerm(depth)) {
                return false;
            }
            for (int i = 0; i < length && (signIs('+') || signIs('-')); i++) {
                int operation = signIs('+') ? Heat.PLUS : Heat.MINUS;
                readToken();
                if (!readTerm(depth)) {
                    return false;
                }
                putStep(operation);
            }
            return true;
        }

        private boolean readTerm(int depth) {
            if (!readFactor(depth)) {
                return false;
            }
            for (int i = 0; i < length && (signIs('*') || signIs('/')); i++) {
                int operation = signIs('*') ? Heat.TIMES : Heat.DIVIDE;
                readToken();
                if (!readFactor(depth)) {
                    return false;
                }
                putStep(operation);
            }
            return true;
        }

        private boolean readFactor(int depth) {
            if (signIs('(')) {
                if (depth >= MAX_DEPTH) {
                    return fail(TOO_DEEP);
                }
                readToken();
                return readSum(depth + 1) && takeSign(')');
            }
            if (kind == NUMBER) {
                if (!takeNumber(0, MAX_FACTOR)) {
                    return false;
                }
                putStep(number);
                return true;
            }
            if (wordIs("thickness")) {
                putStep(Heat.THICKNESS);
            } else if (wordIs("zone")) {
                putStep(Heat.ZONE);
            } else if (wordIs("gap")) {
                putStep(Heat.GAP);
            } else {
                return fail(SYNTAX_ERROR);
            }
            readToken();
            return true;
        }

        private void putStep(int step) {
            if (stepCount < MAX_BYTES) {
                steps[stepCount] = step;
                stepCount++;
            }
        }

        /** The number taken stays in the field until the next one is taken. */
        private boolean takeNumber(int low, int high) {
            if (kind != NUMBER) {
                return fail(SYNTAX_ERROR);
            }
            int value = 0;
            for (int i = start; i < end; i++) {
                value = Math.min(HUGE, 10 * value + (bytes[i] - '0'));
            }
            if (!isWithin(value, low, high)) {
                return fail(OUT_OF_RANGE);
            }
            number = value;
            readToken();
            return true;
        }

        private boolean takeSign(char sign) {
            if (!signIs(sign)) {
                return fail(SYNTAX_ERROR);
            }
            readToken();
            return true;
        }

        private boolean signIs(char sign) {
            return kind == OTHER && bytes[start] == sign;
        }

        private boolean wordIs(String word) {
            if (kind != WORD || end - start != word.length()) {
                return false;
            }
            for (int i = 0; i < word.length(); i++) {
                if (bytes[start + i] != word.charAt(i)) {
                    return false;
                }
            }
            return true;
        }

        /** Steps to the token after the present one; at the end of the text it stays there. */
        private void readToken() {
            start = end;
            while (start < length && bytes[start] == ' ') {
                start++;
            }
            end = start;
            if (start >= length) {
                kind = END;
            } else if (isDigit(bytes[start])) {
                kind = NUMBER;
                while (end < length && isDigit(bytes[end])) {
                    end++;
                }
            } else if (isLetter(bytes[start])) {
                kind = WORD;
                while (end < length && isLetter(bytes[end])) {
                    end++;
                }
            } else {
                kind = OTHER;
                end++;
            }
        }

        private static boolean isDigit(int value) {
            return value >= '0' && value <= '9';
        }

        private static boolean isLetter(int value) {
            return value >= 'a' && value <= 'z';
        }
    }
}
