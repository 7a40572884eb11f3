import java.util.Arrays;
import java.util.NoSuchElementException;

/**
 * A simulator of rain in a small city: water flows from cell to cell, gutters drain it, leaves plug
 * the gutters, hydrants burst, and boots splash.
 */
public final class PuddleCity {
    public static final int NONE = -1;
    public static final int NO_ERROR = 0;
    public static final int SYNTAX = 1;
    public static final int OUT_OF_RANGE = 2;
    public static final int BAD_NAME = 3;
    public static final int TOO_MANY = 4;
    public static final int TOO_FEW = 5;
    public static final int NORTH = 0;
    public static final int EAST = 1;
    public static final int SOUTH = 2;
    public static final int WEST = 3;

    private static final int DIRECTIONS = 4;
    private static final int MIN_SIDE = 2;
    private static final int MAX_SIDE = 8;
    private static final int MAX_CELLS = 64;
    private static final int MAX_HEIGHT = 9;
    private static final int MAX_CAPACITY = 9;
    private static final int MAX_BOOTS = 4;
    private static final int MAX_NAME = 6;
    private static final int MAX_RAIN = 9;
    private static final int MAX_RATE = 20;
    private static final int MAX_LEAVES = 9;
    private static final int MAX_PASS = 60;
    private static final int MAX_OPEN = 60;
    private static final int MAX_MINUTE = 999;
    private static final int MAX_FORECAST = 100;
    private static final int MAX_DRY_FORECAST = 200;
    private static final int MAX_CHANGES = 8;
    private static final int MAX_STATEMENTS = 30;
    private static final int MAX_INPUT = 600;
    private static final int APPENDED = 20;
    private static final String FIRST_SETUP =
            "row 5 4 3;row 6 2 1;row 5 4 0;gutter 8 2;boots ann 0 2;boots bob 4 1;rain 1;";

    private final Text text = new Text();
    private final Script script = new Script();
    private final State state = new State();
    private final State forecast = new State();
    private final State saved = new State();
    private final History history = new History();
    private final Puddles puddles = new Puddles();
    private final Ways ways = new Ways();
    private final byte[] output = new byte[2 * MAX_SIDE];
    private Plan plan = new Plan();
    private Plan sparePlan = new Plan();
    private boolean isSaved = false;
    private int outputLength = 0;

    public PuddleCity() {
        text.putAll(FIRST_SETUP);
        plan.readFrom(text);
        text.clear();
        state.startOver(plan);
    }

    public int appendInput(int a, int b, int c, int d, int e) {
        if (text.length + APPENDED > MAX_INPUT) {
            return NONE;
        }
        text.putFour(a);
        text.putFour(b);
        text.putFour(c);
        text.putFour(d);
        text.putFour(e);
        return text.length;
    }

    public boolean truncateInput(int length) {
        if (length < 0 || length > text.length) {
            return false;
        }
        text.length = length;
        return true;
    }

    public int loadSetup() {
        boolean valid = sparePlan.readFrom(text);
        text.clear();
        if (!valid) {
            return NONE;
        }
        Plan former = plan;
        plan = sparePlan;
        sparePlan = former;
        state.startOver(plan);
        history.forgetAll();
        isSaved = false;
        return plan.cells;
    }

    public int runScript() {
        boolean valid = script.readFrom(text, plan);
        text.clear();
        if (!valid) {
            return NONE;
        }
        history.keep(state);
        int executed = 0;
        while (executed < script.count && script.execute(executed, plan, state)) {
            executed++;
        }
        return executed;
    }

    public int errorCode() {
        return text.errorCode;
    }

    public int errorOffset() {
        return text.errorOffset;
    }

    public int minute() {
        return state.minute;
    }

    public int columnCount() {
        return plan.columns;
    }

    public int rowCount() {
        return plan.rows;
    }

    public int rain() {
        return state.rain;
    }

    public int heightOf(int cell) throws IndexOutOfBoundsException {
        requireCell(cell);
        return plan.heights[cell];
    }

    public int waterOn(int cell) throws IndexOutOfBoundsException {
        requireCell(cell);
        return state.water[cell];
    }

    public int levelOf(int cell) throws IndexOutOfBoundsException {
        requireCell(cell);
        return plan.heights[cell] + state.water[cell];
    }

    public int leavesOn(int cell) throws IndexOutOfBoundsException {
        requireCell(cell);
        return state.leaves[cell];
    }

    public int gutterCapacity(int cell) throws IndexOutOfBoundsException {
        requireCell(cell);
        return plan.gutters[cell];
    }

    public int gutterFlow(int cell) throws IndexOutOfBoundsException {
        requireCell(cell);
        return state.flowIntoGutter(plan, cell);
    }

    public boolean isPlugged(int cell) throws IndexOutOfBoundsException {
        requireCell(cell);
        return plan.gutters[cell] > 0 && state.flowIntoGutter(plan, cell) == 0;
    }

    public int hydrantRate(int cell) throws IndexOutOfBoundsException {
        requireCell(cell);
        return state.hydrantRates[cell];
    }

    public int hydrantMinutes(int cell) throws IndexOutOfBoundsException {
        requireCell(cell);
        return state.hydrantTimes[cell];
    }

    public int flowsTo(int cell) throws IndexOutOfBoundsException {
        requireCell(cell);
        int lowest = state.lowestBeside(plan, cell);
        return state.flowBetween(plan, cell, lowest) > 0 ? lowest : NONE;
    }

    public int flowFrom(int cell) throws IndexOutOfBoundsException {
        requireCell(cell);
        return state.flowBetween(plan, cell, state.lowestBeside(plan, cell));
    }

    public int neighbour(int cell, int direction)
            throws IndexOutOfBoundsException, IllegalArgumentException {
        requireCell(cell);
        requireRange(direction, NORTH, WEST);
        return plan.cellBeside(cell, direction);
    }

    public int puddleCount() {
        puddles.findAll(plan, state);
        return puddles.count;
    }

    public int puddleOf(int cell) throws IndexOutOfBoundsException {
        requireCell(cell);
        puddles.findAll(plan, state);
        return puddles.labels[cell];
    }

    public int puddleSize(int puddle) throws IndexOutOfBoundsException {
        requirePuddle(puddle);
        return puddles.sizes[puddle];
    }

    public int puddleWater(int puddle) throws IndexOutOfBoundsException {
        requirePuddle(puddle);
        return puddles.waters[puddle];
    }

    public int deepestCell() {
        int deepest = 0;
        for (int cell = 1; cell < plan.cells; cell++) {
            if (state.water[cell] > state.water[deepest]) {
                deepest = cell;
            }
        }
        return deepest;
    }

    public int waterTotal() {
        return state.sumOfWater(plan);
    }

    public int rained() {
        return state.rained;
    }

    public int fromHydrants() {
        return state.fromHydrants;
    }

    public int drained() {
        return state.drained;
    }

    public int evaporated() {
        return state.evaporated;
    }

    public int bootsCount() {
        return plan.bootsCount;
    }

    public int nameByte(int boots, int index) throws IndexOutOfBoundsException {
        requireBoots(boots);
        if (index < 0 || index >= plan.nameLengths[boots]) {
            return NONE;
        }
        return plan.names[boots][index];
    }

    public int placeOf(int boots) throws IndexOutOfBoundsException {
        requireBoots(boots);
        return state.places[boots];
    }

    public int bootHeight(int boots) throws IndexOutOfBoundsException {
        requireBoots(boots);
        return plan.bootHeights[boots];
    }

    public boolean isWet(int boots) throws IndexOutOfBoundsException {
        requireBoots(boots);
        return state.wet[boots];
    }

    public int splashesOf(int boots) throws IndexOutOfBoundsException {
        requireBoots(boots);
        return state.splashes[boots];
    }

    public int dryWay(int boots, int cell) throws IndexOutOfBoundsException {
        requireBoots(boots);
        requireCell(cell);
        ways.findAll(plan, state, state.places[boots], plan.bootHeights[boots]);
        return ways.steps[cell];
    }

    public int waterAfter(int cell, int minutes)
            throws IndexOutOfBoundsException, IllegalArgumentException {
        requireCell(cell);
        requireRange(minutes, 0, MAX_FORECAST);
        forecast.copyFrom(state);
        forecast.letPass(plan, minutes);
        return forecast.water[cell];
    }

    public int minutesUntilDry(int cell) throws IndexOutOfBoundsException {
        requireCell(cell);
        forecast.copyFrom(state);
        for (int minutes = 0; minutes <= MAX_DRY_FORECAST; minutes++) {
            if (forecast.water[cell] == 0) {
                return minutes;
            }
            forecast.letPass(plan, 1);
        }
        return NONE;
    }

    public int drainedAfter(int minutes) throws IllegalArgumentException {
        requireRange(minutes, 0, MAX_FORECAST);
        forecast.copyFrom(state);
        forecast.letPass(plan, minutes);
        return forecast.drained;
    }

    public double meanWater() {
        if (plan.cells == 0) {
            return 0.0;
        }
        return (double) state.sumOfWater(plan) / (double) plan.cells;
    }

    public float wetPart() {
        if (plan.cells == 0) {
            return 0.0f;
        }
        int wetCells = 0;
        for (int cell = 0; cell < plan.cells; cell++) {
            if (state.water[cell] > 0) {
                wetCells++;
            }
        }
        return (float) wetCells / (float) plan.cells;
    }

    public boolean isConsistent() {
        puddles.findAll(plan, state);
        int inPuddles = 0;
        for (int puddle = 0; puddle < puddles.count; puddle++) {
            inPuddles += puddles.waters[puddle];
        }
        return state.isBalanced(plan) && inPuddles == state.sumOfWater(plan);
    }

    public int setRain(int rate) throws IllegalArgumentException {
        requireRange(rate, 0, MAX_RAIN);
        history.keep(state);
        int before = state.rain;
        state.rain = rate;
        return before;
    }

    public int burst(int cell, int rate, int minutes)
            throws IndexOutOfBoundsException, IllegalArgumentException, IllegalStateException {
        requireCell(cell);
        requireRange(rate, 1, MAX_RATE);
        requireRange(minutes, 1, MAX_OPEN);
        requireState(!state.isOpen(cell));
        history.keep(state);
        state.openHydrant(cell, rate, minutes);
        return state.countOpen(plan);
    }

    public int shut(int cell) throws IndexOutOfBoundsException, IllegalStateException {
        requireCell(cell);
        requireState(state.isOpen(cell));
        history.keep(state);
        return state.shutHydrant(cell);
    }

    public int dropLeaves(int cell, int count)
            throws IndexOutOfBoundsException, IllegalArgumentException {
        requireCell(cell);
        requireRange(count, 1, MAX_LEAVES);
        history.keep(state);
        state.addLeaves(cell, count);
        return state.leaves[cell];
    }

    public int sweep(int cell) throws IndexOutOfBoundsException {
        requireCell(cell);
        history.keep(state);
        return state.takeLeaves(cell);
    }

    public int walk(int boots, int direction)
            throws IndexOutOfBoundsException, IllegalArgumentException, IllegalStateException {
        requireBoots(boots);
        requireRange(direction, NORTH, WEST);
        requireState(state.canStep(plan, boots, direction));
        history.keep(state);
        state.step(plan, boots, direction);
        return state.places[boots];
    }

    public int splash(int boots) throws IndexOutOfBoundsException, IllegalStateException {
        requireBoots(boots);
        requireState(state.canThrow(boots));
        history.keep(state);
        return state.throwWater(plan, boots);
    }

    public int passMinutes(int minutes) throws IllegalArgumentException, IllegalStateException {
        requireRange(minutes, 1, MAX_PASS);
        requireState(state.canPass(minutes));
        history.keep(state);
        int before = state.drained;
        state.letPass(plan, minutes);
        return state.drained - before;
    }

    public int undo() throws NoSuchElementException {
        if (history.count == 0) {
            throw new NoSuchElementException("no change can be undone");
        }
        history.takeBack(state);
        return history.count;
    }

    public int writeRow(int row) throws IndexOutOfBoundsException {
        if (row < 0 || row >= plan.rows) {
            throw new IndexOutOfBoundsException("no such row");
        }
        outputLength = 0;
        for (int column = 0; column < plan.columns; column++) {
            int cell = row * plan.columns + column;
            putOutput(signOfWater(state.water[cell]));
            if (state.leaves[cell] > 0) {
                putOutput('%');
            }
        }
        return outputLength;
    }

    public int outputByte(int index) {
        return index < 0 || index >= outputLength ? NONE : output[index];
    }

    public int saveState() {
        saved.copyFrom(state);
        isSaved = true;
        return state.minute;
    }

    public int restoreState() throws NoSuchElementException {
        if (!isSaved) {
            throw new NoSuchElementException("no state is saved");
        }
        state.copyFrom(saved);
        history.forgetAll();
        return state.minute;
    }

    private void requireCell(int cell) {
        if (!plan.hasCell(cell)) {
            throw new IndexOutOfBoundsException("no such cell");
        }
    }

    private void requireBoots(int boots) {
        if (boots < 0 || boots >= plan.bootsCount) {
            throw new IndexOutOfBoundsException("no such boots");
        }
    }

    private void requirePuddle(int puddle) {
        puddles.findAll(plan, state);
        if (puddle < 0 || puddle >= puddles.count) {
            throw new IndexOutOfBoundsException("no such puddle");
        }
    }

    private static void requireRange(int value, int least, int most) {
        if (value < least || value > most) {
            throw new IllegalArgumentException("outside its range");
        }
    }

    private static void requireState(boolean allowed) {
        if (!allowed) {
            throw new IllegalStateException("not possible as things are");
        }
    }

    private static char signOfWater(int water) {
        if (water <= 0) {
            return '.';
        }
        return water <= 9 ? (char) ('0' + water) : '+';
    }

    private void putOutput(char sign) {
        if (outputLength < output.length) {
            output[outputLength] = (byte) sign;
            outputLength++;
        }
    }

    /** The input buffer, read token by token, with the first error of the latest reading. */
    private static final class Text {
        private static final int END = 0;
        private static final int WORD = 1;
        private static final int NUMBER = 2;
        private static final int SEMICOLON = 3;
        private static final int REFUSED = 4;
        private static final int MAX_LETTERS = 8;
        private static final int MAX_DIGITS = 2;

        private final byte[] bytes = new byte[MAX_INPUT];
        private int length = 0;
        private int position = 0;
        private int kind = END;
        private int start = 0;
        private int value = 0;
        private int errorCode = NO_ERROR;
        private int errorOffset = NONE;

        void put(byte next) {
            if (length < bytes.length) {
                bytes[length] = next;
                length++;
            }
        }

        void putFour(int four) {
            put((byte) (four >>> 24));
            put((byte) (four >>> 16));
            put((byte) (four >>> 8));
            put((byte) four);
        }

        void putAll(String signs) {
            for (int i = 0; i < signs.length(); i++) {
                put((byte) signs.charAt(i));
            }
        }

        void clear() {
            length = 0;
        }

        void rewind() {
            position = 0;
            errorCode = NO_ERROR;
            errorOffset = NONE;
        }

        /** Always false, so that a reading can end with what this returns. */
        boolean fail(int code) {
            errorCode = code;
            errorOffset = start;
            return false;
        }

        void next() {
            while (position < length && isBlank(bytes[position])) {
                position++;
            }
            start = position;
            if (position >= length) {
                kind = END;
            } else if (isLetter(bytes[position])) {
                readWord();
            } else if (isDigit(bytes[position])) {
                readNumber();
            } else {
                kind = bytes[position] == ';' ? SEMICOLON : REFUSED;
                position++;
            }
        }

        private void readWord() {
            while (position < length && isLetter(bytes[position])) {
                position++;
            }
            kind = position - start <= MAX_LETTERS ? WORD : REFUSED;
        }

        private void readNumber() {
            value = 0;
            while (position < length && isDigit(bytes[position])) {
                // 600 digits overflow the value, but more than two of them are refused below
                value = 10 * value + bytes[position] - '0';
                position++;
            }
            kind = position - start <= MAX_DIGITS ? NUMBER : REFUSED;
        }

        /** Takes the next token, which must be a number in the range; value holds it then. */
        boolean takeNumber(int least, int most) {
            next();
            if (kind != NUMBER) {
                return fail(SYNTAX);
            }
            return value >= least && value <= most || fail(OUT_OF_RANGE);
        }

        boolean takeName() {
            next();
            return kind == WORD && position - start <= MAX_NAME || fail(SYNTAX);
        }

        boolean takeSemicolon() {
            next();
            return kind == SEMICOLON || fail(SYNTAX);
        }

        boolean isWord(String word) {
            if (kind != WORD || position - start != word.length()) {
                return false;
            }
            for (int i = 0; i < word.length(); i++) {
                if (bytes[start + i] != word.charAt(i)) {
                    return false;
                }
            }
            return true;
        }

        boolean isName(byte[] name, int nameLength) {
            if (position - start != nameLength || nameLength > name.length) {
                return false;
            }
            for (int i = 0; i < nameLength; i++) {
                if (bytes[start + i] != name[i]) {
                    return false;
                }
            }
            return true;
        }

        /** Copies the letters of the token and returns how many they are. */
        int copyName(byte[] name) {
            int letters = Math.min(position - start, name.length);
            System.arraycopy(bytes, start, name, 0, letters);
            return letters;
        }

        private static boolean isBlank(byte sign) {
            return sign == ' ' || sign == '\n';
        }

        private static boolean isLetter(byte sign) {
            return sign >= 'a' && sign <= 'z';
        }

        private static boolean isDigit(byte sign) {
            return sign >= '0' && sign <= '9';
        }
    }

    /** What a setup fixes until the next one: the cells, the gutters and the boots. */
    private static final class Plan {
        private final int[] heights = new int[MAX_CELLS];
        private final int[] gutters = new int[MAX_CELLS];
        private final int[] beside = new int[MAX_CELLS * DIRECTIONS];
        private final byte[][] names = new byte[MAX_BOOTS][MAX_NAME];
        private final int[] nameLengths = new int[MAX_BOOTS];
        private final int[] bootHeights = new int[MAX_BOOTS];
        private final int[] firstPlaces = new int[MAX_BOOTS];
        private int rows = 0;
        private int columns = 0;
        private int cells = 0;
        private int bootsCount = 0;
        private int firstRain = 0;

        boolean hasCell(int cell) {
            return cell >= 0 && cell < cells;
        }

        int cellBeside(int cell, int direction) {
            if (!hasCell(cell) || direction < NORTH || direction > WEST) {
                return NONE;
            }
            return beside[cell * DIRECTIONS + direction];
        }

        boolean readFrom(Text text) {
            empty();
            text.rewind();
            text.next();
            // a statement takes two bytes or more, so the text ends before this count does
            for (int statement = 0; statement < MAX_INPUT && text.kind != Text.END; statement++) {
                if (!readStatement(text)) {
                    return false;
                }
                text.next();
            }
            if (rows < MIN_SIDE) {
                return text.fail(TOO_FEW);
            }
            findBeside();
            return true;
        }

        private void empty() {
            rows = 0;
            columns = 0;
            cells = 0;
            bootsCount = 0;
            firstRain = 0;
            Arrays.fill(gutters, 0);
        }

        private boolean readStatement(Text text) {
            if (text.isWord("row")) {
                return readRow(text);
            }
            if (text.isWord("gutter")) {
                return readGutter(text);
            }
            if (text.isWord("boots")) {
                return readBoots(text);
            }
            if (text.isWord("rain")) {
                return readRain(text);
            }
            return text.fail(SYNTAX);
        }

        private boolean readRow(Text text) {
            if (rows >= MAX_SIDE) {
                return text.fail(TOO_MANY);
            }
            int least = rows == 0 ? MIN_SIDE : columns;
            int most = rows == 0 ? MAX_SIDE : columns;
            for (int count = 0; count < most; count++) {
                text.next();
                if (text.kind == Text.SEMICOLON && count >= least) {
                    endRow(count);
                    return true;
                }
                if (text.kind != Text.NUMBER) {
                    return text.fail(SYNTAX);
                }
                if (text.value > MAX_HEIGHT) {
                    return text.fail(OUT_OF_RANGE);
                }
                heights[cells + count] = text.value;
            }
            endRow(most);
            return text.takeSemicolon();
        }

        private void endRow(int heightCount) {
            rows++;
            columns = heightCount;
            cells = rows * columns;
        }

        private boolean readGutter(Text text) {
            if (!text.takeNumber(0, cells - 1)) {
                return false;
            }
            int cell = text.value;
            if (!text.takeNumber(1, MAX_CAPACITY)) {
                return false;
            }
            gutters[cell] = text.value;
            return text.takeSemicolon();
        }

        private boolean readBoots(Text text) {
            if (bootsCount >= MAX_BOOTS) {
                return text.fail(TOO_MANY);
            }
            if (!text.takeName()) {
                return false;
            }
            if (bootsNamed(text) != NONE) {
                return text.fail(BAD_NAME);
            }
            nameLengths[bootsCount] = text.copyName(names[bootsCount]);
            if (!text.takeNumber(0, cells - 1)) {
                return false;
            }
            firstPlaces[bootsCount] = text.value;
            if (!text.takeNumber(1, MAX_HEIGHT)) {
                return false;
            }
            bootHeights[bootsCount] = text.value;
            bootsCount++;
            return text.takeSemicolon();
        }

        private boolean readRain(Text text) {
            if (!text.takeNumber(0, MAX_RAIN)) {
                return false;
            }
            firstRain = text.value;
            return text.takeSemicolon();
        }

        /** The boots whose name is the token of the text, or NONE. */
        int bootsNamed(Text text) {
            for (int boots = 0; boots < bootsCount; boots++) {
                if (text.isName(names[boots], nameLengths[boots])) {
                    return boots;
                }
            }
            return NONE;
        }

        private void findBeside() {
            for (int row = 0; row < rows; row++) {
                for (int column = 0; column < columns; column++) {
                    int cell = row * columns + column;
                    int first = cell * DIRECTIONS;
                    beside[first + NORTH] = row > 0 ? cell - columns : NONE;
                    beside[first + EAST] = column < columns - 1 ? cell + 1 : NONE;
                    beside[first + SOUTH] = row < rows - 1 ? cell + columns : NONE;
                    beside[first + WEST] = column > 0 ? cell - 1 : NONE;
                }
            }
        }
    }

    /** Everything that changes and can be undone, saved or forecast. */
    private static final class State {
        private final int[] water = new int[MAX_CELLS];
        private final int[] leaves = new int[MAX_CELLS];
        private final int[] hydrantRates = new int[MAX_CELLS];
        private final int[] hydrantTimes = new int[MAX_CELLS];
        private final int[] places = new int[MAX_BOOTS];
        private final int[] splashes = new int[MAX_BOOTS];
        private final boolean[] wet = new boolean[MAX_BOOTS];
        private int minute = 0;
        private int rain = 0;
        private int rained = 0;
        private int fromHydrants = 0;
        private int drained = 0;
        private int evaporated = 0;
        private int dropped = 0;
        private int swept = 0;

        void startOver(Plan plan) {
            Arrays.fill(water, 0);
            Arrays.fill(leaves, 0);
            Arrays.fill(hydrantRates, 0);
            Arrays.fill(hydrantTimes, 0);
            for (int boots = 0; boots < MAX_BOOTS; boots++) {
                places[boots] = plan.firstPlaces[boots];
                splashes[boots] = 0;
                wet[boots] = false;
            }
            minute = 0;
            rain = plan.firstRain;
            rained = 0;
            fromHydrants = 0;
            drained = 0;
            evaporated = 0;
            dropped = 0;
            swept = 0;
        }

        void copyFrom(State other) {
            System.arraycopy(other.water, 0, water, 0, MAX_CELLS);
            System.arraycopy(other.leaves, 0, leaves, 0, MAX_CELLS);
            System.arraycopy(other.hydrantRates, 0, hydrantRates, 0, MAX_CELLS);
            System.arraycopy(other.hydrantTimes, 0, hydrantTimes, 0, MAX_CELLS);
            System.arraycopy(other.places, 0, places, 0, MAX_BOOTS);
            System.arraycopy(other.splashes, 0, splashes, 0, MAX_BOOTS);
            for (int boots = 0; boots < MAX_BOOTS; boots++) {
                wet[boots] = other.wet[boots];
            }
            minute = other.minute;
            rain = other.rain;
            rained = other.rained;
            fromHydrants = other.fromHydrants;
            drained = other.drained;
            evaporated = other.evaporated;
            dropped = other.dropped;
            swept = other.swept;
        }

        boolean canPass(int minutes) {
            return minute + minutes <= MAX_MINUTE;
        }

        void letPass(Plan plan, int minutes) {
            for (int passed = 0; passed < minutes; passed++) {
                minute++;
                fallAsRain(plan);
                runHydrants(plan);
                flowEverywhere(plan);
                drainGutters(plan);
                if (minute % 10 == 0) {
                    evaporate(plan);
                }
                for (int boots = 0; boots < plan.bootsCount; boots++) {
                    wetIfTooDeep(plan, boots);
                }
            }
        }

        private void fallAsRain(Plan plan) {
            for (int cell = 0; cell < plan.cells; cell++) {
                water[cell] += rain;
            }
            rained += rain * plan.cells;
        }

        private void runHydrants(Plan plan) {
            for (int cell = 0; cell < plan.cells; cell++) {
                if (isOpen(cell)) {
                    water[cell] += hydrantRates[cell];
                    fromHydrants += hydrantRates[cell];
                    hydrantTimes[cell]--;
                    if (hydrantTimes[cell] == 0) {
                        hydrantRates[cell] = 0;
                    }
                }
            }
        }

        private void flowEverywhere(Plan plan) {
            for (int cell = 0; cell < plan.cells; cell++) {
                int lowest = lowestBeside(plan, cell);
                int units = flowBetween(plan, cell, lowest);
                if (units > 0) {
                    water[cell] -= units;
                    water[lowest] += units;
                    if (leaves[cell] > 0 && plan.gutters[cell] == 0) {
                        leaves[cell]--;
                        leaves[lowest]++;
                    }
                }
            }
        }

        private void drainGutters(Plan plan) {
            for (int cell = 0; cell < plan.cells; cell++) {
                int units = Math.min(flowIntoGutter(plan, cell), water[cell]);
                water[cell] -= units;
                drained += units;
            }
        }

        private void evaporate(Plan plan) {
            for (int cell = 0; cell < plan.cells; cell++) {
                if (water[cell] > 0) {
                    water[cell]--;
                    evaporated++;
                }
            }
        }

        private void wetIfTooDeep(Plan plan, int boots) {
            if (waterUnder(boots) > plan.bootHeights[boots]) {
                wet[boots] = true;
            }
        }

        private int waterUnder(int boots) {
            int cell = places[boots];
            return cell >= 0 && cell < MAX_CELLS ? water[cell] : 0;
        }

        int flowIntoGutter(Plan plan, int cell) {
            return Math.max(plan.gutters[cell] - leaves[cell], 0);
        }

        int lowestBeside(Plan plan, int cell) {
            int lowest = NONE;
            int lowestLevel = 0;
            for (int direction = NORTH; direction <= WEST; direction++) {
                int other = plan.cellBeside(cell, direction);
                if (other >= 0) {
                    int level = plan.heights[other] + water[other];
                    if (lowest == NONE || level < lowestLevel) {
                        lowest = other;
                        lowestLevel = level;
                    }
                }
            }
            return lowest;
        }

        int flowBetween(Plan plan, int cell, int lowest) {
            if (!plan.hasCell(lowest)) {
                return 0;
            }
            int difference =
                    plan.heights[cell] + water[cell] - plan.heights[lowest] - water[lowest];
            return difference <= 0 ? 0 : Math.min(difference / 2, water[cell]);
        }

        int sumOfWater(Plan plan) {
            int sum = 0;
            for (int cell = 0; cell < plan.cells; cell++) {
                sum += water[cell];
            }
            return sum;
        }

        boolean isBalanced(Plan plan) {
            int leavesLeft = 0;
            for (int cell = 0; cell < plan.cells; cell++) {
                if (water[cell] < 0) {
                    return false;
                }
                leavesLeft += leaves[cell];
            }
            for (int boots = 0; boots < plan.bootsCount; boots++) {
                if (!plan.hasCell(places[boots])) {
                    return false;
                }
            }
            return rained + fromHydrants == sumOfWater(plan) + drained + evaporated
                    && dropped == leavesLeft + swept;
        }

        boolean isOpen(int cell) {
            return hydrantTimes[cell] > 0;
        }

        int countOpen(Plan plan) {
            int open = 0;
            for (int cell = 0; cell < plan.cells; cell++) {
                if (isOpen(cell)) {
                    open++;
                }
            }
            return open;
        }

        void openHydrant(int cell, int rate, int minutes) {
            hydrantRates[cell] = rate;
            hydrantTimes[cell] = minutes;
        }

        int shutHydrant(int cell) {
            int minutes = hydrantTimes[cell];
            hydrantRates[cell] = 0;
            hydrantTimes[cell] = 0;
            return minutes;
        }

        void addLeaves(int cell, int count) {
            leaves[cell] += count;
            dropped += count;
        }

        int takeLeaves(int cell) {
            int count = leaves[cell];
            leaves[cell] = 0;
            swept += count;
            return count;
        }

        boolean canStep(Plan plan, int boots, int direction) {
            return plan.cellBeside(places[boots], direction) != NONE;
        }

        void step(Plan plan, int boots, int direction) {
            places[boots] = plan.cellBeside(places[boots], direction);
            wetIfTooDeep(plan, boots);
        }

        boolean canThrow(int boots) {
            return waterUnder(boots) > 0;
        }

        int throwWater(Plan plan, int boots) {
            int cell = places[boots];
            int fifth = waterUnder(boots) / 5;
            int thrown = 0;
            for (int direction = NORTH; direction <= WEST; direction++) {
                int other = plan.cellBeside(cell, direction);
                if (other >= 0) {
                    water[other] += fifth;
                    thrown += fifth;
                }
            }
            if (plan.hasCell(cell)) {
                water[cell] -= thrown;
            }
            splashes[boots]++;
            return thrown;
        }
    }

    /** The states before the latest changes, in a ring whose oldest place is used again. */
    private static final class History {
        private final State[] states = new State[MAX_CHANGES];
        private int oldest = 0;
        private int count = 0;

        History() {
            for (int i = 0; i < MAX_CHANGES; i++) {
                states[i] = new State();
            }
        }

        void keep(State now) {
            State place = states[(oldest + count) % MAX_CHANGES];
            if (place != null) {
                place.copyFrom(now);
            }
            if (count < MAX_CHANGES) {
                count++;
            } else {
                oldest = (oldest + 1) % MAX_CHANGES;
            }
        }

        void takeBack(State now) {
            if (count > 0) {
                count--;
                State place = states[(oldest + count) % MAX_CHANGES];
                if (place != null) {
                    now.copyFrom(place);
                }
            }
        }

        void forgetAll() {
            count = 0;
        }
    }

    /** The puddles of a state, found anew for each question. */
    private static final class Puddles {
        private final int[] labels = new int[MAX_CELLS];
        private final int[] sizes = new int[MAX_CELLS];
        private final int[] waters = new int[MAX_CELLS];
        private final int[] queue = new int[MAX_CELLS];
        private int count = 0;

        void findAll(Plan plan, State state) {
            Arrays.fill(labels, NONE);
            count = 0;
            for (int cell = 0; cell < plan.cells; cell++) {
                if (state.water[cell] > 0 && labels[cell] == NONE) {
                    fillFrom(plan, state, cell);
                    count++;
                }
            }
        }

        private void fillFrom(Plan plan, State state, int first) {
            sizes[count] = 0;
            waters[count] = 0;
            labels[first] = count;
            queue[0] = first;
            int queued = 1;
            for (int done = 0; done < queued && done < MAX_CELLS; done++) {
                int cell = queue[done];
                sizes[count]++;
                waters[count] += state.water[cell];
                for (int direction = NORTH; direction <= WEST; direction++) {
                    int other = plan.cellBeside(cell, direction);
                    if (other >= 0 && labels[other] == NONE && state.water[other] > 0
                            && queued < MAX_CELLS) {
                        labels[other] = count;
                        queue[queued] = other;
                        queued++;
                    }
                }
            }
        }
    }

    /** The lengths of the shortest ways on which boots stay dry inside. */
    private static final class Ways {
        private final int[] steps = new int[MAX_CELLS];
        private final int[] queue = new int[MAX_CELLS];

        /** The own cell counts as reached however deep it is: the boots stand there already. */
        void findAll(Plan plan, State state, int from, int bootHeight) {
            Arrays.fill(steps, NONE);
            if (!plan.hasCell(from)) {
                return;
            }
            steps[from] = 0;
            queue[0] = from;
            int queued = 1;
            for (int done = 0; done < queued && done < MAX_CELLS; done++) {
                int cell = queue[done];
                for (int direction = NORTH; direction <= WEST; direction++) {
                    int other = plan.cellBeside(cell, direction);
                    if (other >= 0 && steps[other] == NONE && state.water[other] <= bootHeight
                            && queued < MAX_CELLS) {
                        steps[other] = steps[cell] + 1;
                        queue[queued] = other;
                        queued++;
                    }
                }
            }
        }
    }

    /** The statements of a script. */
    private enum Verb {
        RAIN("rain"),
        BURST("burst"),
        SHUT("shut"),
        LEAVES("leaves"),
        SWEEP("sweep"),
        WALK("walk"),
        SPLASH("splash"),
        PASS("pass");

        private final String word;

        Verb(String word) {
            this.word = word;
        }
    }

    /** A script that has been read: for each statement its verb and its up to three numbers. */
    private static final class Script {
        private static final Verb[] VERBS = Verb.values();

        private final Verb[] verbs = new Verb[MAX_STATEMENTS];
        private final int[] firsts = new int[MAX_STATEMENTS];
        private final int[] seconds = new int[MAX_STATEMENTS];
        private final int[] thirds = new int[MAX_STATEMENTS];
        private int count = 0;

        boolean readFrom(Text text, Plan plan) {
            count = 0;
            text.rewind();
            text.next();
            for (int read = 0; read <= MAX_STATEMENTS && text.kind != Text.END; read++) {
                Verb verb = verbOf(text);
                if (verb == null) {
                    return text.fail(SYNTAX);
                }
                if (read == MAX_STATEMENTS) {
                    return text.fail(TOO_MANY);
                }
                verbs[read] = verb;
                if (!readNumbers(text, plan, verb) || !text.takeSemicolon()) {
                    return false;
                }
                count++;
                text.next();
            }
            return true;
        }

        private static Verb verbOf(Text text) {
            for (int i = 0; i < VERBS.length; i++) {
                if (text.isWord(VERBS[i].word)) {
                    return VERBS[i];
                }
            }
            return null;
        }

        private boolean readNumbers(Text text, Plan plan, Verb verb) {
            switch (verb) {
                case RAIN:
                    return readFirst(text, 0, MAX_RAIN);
                case BURST:
                    return readFirst(text, 0, plan.cells - 1)
                            && readSecond(text, 1, MAX_RATE)
                            && readThird(text, 1, MAX_OPEN);
                case LEAVES:
                    return readFirst(text, 0, plan.cells - 1) && readSecond(text, 1, MAX_LEAVES);
                case WALK:
                    return readName(text, plan) && readSecond(text, NORTH, WEST);
                case SPLASH:
                    return readName(text, plan);
                case PASS:
                    return readFirst(text, 1, MAX_PASS);
                default:
                    return readFirst(text, 0, plan.cells - 1);
            }
        }

        private boolean readFirst(Text text, int least, int most) {
            boolean taken = text.takeNumber(least, most);
            firsts[count] = text.value;
            return taken;
        }

        private boolean readSecond(Text text, int least, int most) {
            boolean taken = text.takeNumber(least, most);
            seconds[count] = text.value;
            return taken;
        }

        private boolean readThird(Text text, int least, int most) {
            boolean taken = text.takeNumber(least, most);
            thirds[count] = text.value;
            return taken;
        }

        private boolean readName(Text text, Plan plan) {
            if (!text.takeName()) {
                return false;
            }
            firsts[count] = plan.bootsNamed(text);
            return firsts[count] != NONE || text.fail(BAD_NAME);
        }

        /** Executes a statement, or changes nothing and returns false if its method would throw. */
        boolean execute(int statement, Plan plan, State state) {
            Verb verb = verbs[statement];
            if (verb == null) {
                return false;
            }
            int first = firsts[statement];
            int second = seconds[statement];
            switch (verb) {
                case RAIN:
                    state.rain = first;
                    return true;
                case BURST:
                    return burstIfShut(state, first, second, thirds[statement]);
                case SHUT:
                    return shutIfOpen(state, first);
                case LEAVES:
                    state.addLeaves(first, second);
                    return true;
                case SWEEP:
                    state.takeLeaves(first);
                    return true;
                case WALK:
                    return stepIfPossible(plan, state, first, second);
                case SPLASH:
                    return throwIfPossible(plan, state, first);
                default:
                    return passIfPossible(plan, state, first);
            }
        }

        private static boolean burstIfShut(State state, int cell, int rate, int minutes) {
            boolean possible = !state.isOpen(cell);
            if (possible) {
                state.openHydrant(cell, rate, minutes);
            }
            return possible;
        }

        private static boolean shutIfOpen(State state, int cell) {
            boolean possible = state.isOpen(cell);
            if (possible) {
                state.shutHydrant(cell);
            }
            return possible;
        }

        private static boolean stepIfPossible(Plan plan, State state, int boots, int direction) {
            boolean possible = state.canStep(plan, boots, direction);
            if (possible) {
                state.step(plan, boots, direction);
            }
            return possible;
        }

        private static boolean throwIfPossible(Plan plan, State state, int boots) {
            boolean possible = state.canThrow(boots);
            if (possible) {
                state.throwWater(plan, boots);
            }
            return possible;
        }

        private static boolean passIfPossible(Plan plan, State state, int minutes) {
            boolean possible = state.canPass(minutes);
            if (possible) {
                state.letPass(plan, minutes);
            }
            return possible;
        }
    }
}
