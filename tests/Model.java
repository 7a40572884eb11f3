import java.nio.charset.StandardCharsets;
import java.util.ArrayDeque;
import java.util.ArrayList;
import java.util.Arrays;
import java.util.Deque;
import java.util.HashMap;
import java.util.List;
import java.util.Map;
import java.util.NoSuchElementException;
import java.util.TreeSet;
import java.util.regex.Matcher;
import java.util.regex.Pattern;

/**
 * The document a second time, written plainly with the Java library and with nothing kept between
 * calls that could be found anew. RandomRunsTest compares the class with it.
 */
final class Model {
    private static final int NONE = -1;

    private record Boots(String name, int height) {
    }

    /** The city with everything that undo brings back. */
    private static final class City {
        int columns;
        List<Integer> heights = new ArrayList<>();
        Map<Integer, Integer> gutters = new HashMap<>();
        List<Boots> boots = new ArrayList<>();
        int[] water;
        int[] leaves;
        int[] rates;
        int[] times;
        int[] places;
        int[] splashes;
        boolean[] wet;
        int minute;
        int rain;
        int rained;
        int given;
        int drained;
        int evaporated;

        City copy() {
            City copy = new City();
            copy.columns = columns;
            copy.heights = heights;
            copy.gutters = gutters;
            copy.boots = boots;
            copy.water = water.clone();
            copy.leaves = leaves.clone();
            copy.rates = rates.clone();
            copy.times = times.clone();
            copy.places = places.clone();
            copy.splashes = splashes.clone();
            copy.wet = wet.clone();
            copy.minute = minute;
            copy.rain = rain;
            copy.rained = rained;
            copy.given = given;
            copy.drained = drained;
            copy.evaporated = evaporated;
            return copy;
        }

        int beside(int cell, int direction) {
            int row = cell / columns + new int[] {-1, 0, 1, 0}[direction];
            int column = cell % columns + new int[] {0, 1, 0, -1}[direction];
            boolean inside = row >= 0 && row < heights.size() / columns && column >= 0 && column < columns;
            return inside ? row * columns + column : NONE;
        }

        int level(int cell) {
            return heights.get(cell) + water[cell];
        }

        int lowest(int cell) {
            int best = NONE;
            for (int direction = 3; direction >= 0; direction--) {
                int other = beside(cell, direction);
                if (other != NONE && (best == NONE || level(other) <= level(best))) {
                    best = other;
                }
            }
            return best;
        }

        int flow(int cell) {
            int other = lowest(cell);
            return level(other) >= level(cell) ? 0
                    : Math.min((level(cell) - level(other)) / 2, water[cell]);
        }

        int gutterFlow(int cell) {
            return gutters.containsKey(cell) ? Math.max(0, gutters.get(cell) - leaves[cell]) : 0;
        }

        void dampen(int pair) {
            wet[pair] |= water[places[pair]] > boots.get(pair).height();
        }

        void minutePasses() {
            minute++;
            int cells = heights.size();
            for (int cell = 0; cell < cells; cell++) {
                water[cell] += rain;
                rained += rain;
            }
            for (int cell = 0; cell < cells; cell++) {
                if (times[cell] > 0) {
                    water[cell] += rates[cell];
                    given += rates[cell];
                    times[cell]--;
                }
            }
            for (int cell = 0; cell < cells; cell++) {
                int units = flow(cell);
                int other = lowest(cell);
                water[cell] -= units;
                water[other] += units;
                if (units >= 1 && leaves[cell] > 0 && !gutters.containsKey(cell)) {
                    leaves[cell]--;
                    leaves[other]++;
                }
            }
            for (int cell = 0; cell < cells; cell++) {
                int units = Math.min(gutterFlow(cell), water[cell]);
                water[cell] -= units;
                drained += units;
            }
            for (int cell = 0; cell < cells && minute % 10 == 0; cell++) {
                if (water[cell] > 0) {
                    water[cell]--;
                    evaporated++;
                }
            }
            for (int pair = 0; pair < boots.size(); pair++) {
                dampen(pair);
            }
        }

        City later(int minutes) {
            City later = copy();
            for (int i = 0; i < minutes; i++) {
                later.minutePasses();
            }
            return later;
        }
    }

    /** The first error of a text. */
    private static final class TextError extends Exception {
        private static final long serialVersionUID = 1L;
        final int code;
        final int offset;

        TextError(int code, int offset) {
            this.code = code;
            this.offset = offset;
        }
    }

    /** The tokens of a text, of which the last one is its end. */
    private static final class Tokens {
        private static final Pattern TOKEN = Pattern.compile("[a-z]+|[0-9]+|[^ \n]", Pattern.DOTALL);
        private final List<String> tokens = new ArrayList<>();
        private final List<Integer> offsets = new ArrayList<>();
        private int next = 0;

        Tokens(String text) {
            Matcher matcher = TOKEN.matcher(text);
            while (matcher.find()) {
                tokens.add(matcher.group());
                offsets.add(matcher.start());
            }
            tokens.add("");
            offsets.add(text.length());
        }

        String peek() {
            return tokens.get(next);
        }

        TextError error(int code) {
            return new TextError(code, offsets.get(next));
        }

        String take(String pattern) throws TextError {
            if (!peek().matches(pattern)) {
                throw error(PuddleCity.SYNTAX);
            }
            return tokens.get(next++);
        }

        int number(int least, int most) throws TextError {
            if (!peek().matches("[0-9]{1,2}")) {
                throw error(PuddleCity.SYNTAX);
            }
            int value = Integer.parseInt(peek());
            if (value < least || value > most) {
                throw error(PuddleCity.OUT_OF_RANGE);
            }
            next++;
            return value;
        }

        /** The place of the name among these, or NONE: then the token was not taken. */
        int name(List<Boots> boots) throws TextError {
            if (!peek().matches("[a-z]{1,6}")) {
                throw error(PuddleCity.SYNTAX);
            }
            for (int i = 0; i < boots.size(); i++) {
                if (boots.get(i).name().equals(peek())) {
                    return i;
                }
            }
            return NONE;
        }
    }

    private City city;
    private City saved = null;
    private final Deque<City> changes = new ArrayDeque<>();
    private byte[] input = new byte[0];
    private String output = "";
    private TextError error = null;

    Model() {
        try {
            city = parseSetup("row 5 4 3;row 6 2 1;row 5 4 0;gutter 8 2;boots ann 0 2;boots bob 4 1;rain 1;");
        } catch (TextError impossible) {
            throw new IllegalStateException(impossible);
        }
    }

    private static City parseSetup(String text) throws TextError {
        City city = new City();
        List<Integer> places = new ArrayList<>();
        Tokens in = new Tokens(text);
        int rows = 0;
        while (!in.peek().isEmpty()) {
            if (in.peek().equals("row") && rows == 8 || in.peek().equals("boots") && places.size() == 4) {
                throw in.error(PuddleCity.TOO_MANY);
            }
            switch (in.take("row|gutter|boots|rain")) {
                case "row":
                    int count = 0;
                    List<Integer> row = new ArrayList<>();
                    while (rows == 0 ? count < 2 || count < 8 && !in.peek().equals(";") : count < city.columns) {
                        row.add(in.number(0, 9));
                        count++;
                    }
                    in.take(";");
                    city.heights.addAll(row);
                    city.columns = count;
                    rows++;
                    break;
                case "gutter":
                    int cell = in.number(0, city.heights.size() - 1);
                    city.gutters.put(cell, in.number(1, 9));
                    in.take(";");
                    break;
                case "boots":
                    if (in.name(city.boots) != NONE) {
                        throw in.error(PuddleCity.BAD_NAME);
                    }
                    String name = in.take("[a-z]+");
                    places.add(in.number(0, city.heights.size() - 1));
                    city.boots.add(new Boots(name, in.number(1, 9)));
                    in.take(";");
                    break;
                default:
                    city.rain = in.number(0, 9);
                    in.take(";");
            }
        }
        if (rows < 2) {
            throw in.error(PuddleCity.TOO_FEW);
        }
        int cells = city.heights.size();
        city.water = new int[cells];
        city.leaves = new int[cells];
        city.rates = new int[cells];
        city.times = new int[cells];
        city.places = places.stream().mapToInt(Integer::intValue).toArray();
        city.splashes = new int[places.size()];
        city.wet = new boolean[places.size()];
        return city;
    }

    private List<int[]> parseScript(String text) throws TextError {
        List<int[]> statements = new ArrayList<>();
        List<String> verbs = List.of("rain", "burst", "shut", "leaves", "sweep", "walk", "splash", "pass");
        Tokens in = new Tokens(text);
        int last = city.heights.size() - 1;
        while (!in.peek().isEmpty()) {
            int verb = verbs.indexOf(in.peek());
            if (verb < 0) {
                throw in.error(PuddleCity.SYNTAX);
            }
            if (statements.size() == 30) {
                throw in.error(PuddleCity.TOO_MANY);
            }
            in.take("[a-z]+");
            int[] statement = {verb, 0, 0, 0};
            if (verb == 0 || verb == 7) {
                statement[1] = verb == 0 ? in.number(0, 9) : in.number(1, 60);
            } else if (verb <= 4) {
                statement[1] = in.number(0, last);
            } else {
                statement[1] = in.name(city.boots);
                if (statement[1] == NONE) {
                    throw in.error(PuddleCity.BAD_NAME);
                }
                in.take("[a-z]+");
            }
            if (verb == 1) {
                statement[2] = in.number(1, 20);
                statement[3] = in.number(1, 60);
            } else if (verb == 3) {
                statement[2] = in.number(1, 9);
            } else if (verb == 5) {
                statement[2] = in.number(0, 3);
            }
            in.take(";");
            statements.add(statement);
        }
        return statements;
    }

    private String takeInput() {
        String text = new String(input, StandardCharsets.ISO_8859_1);
        input = new byte[0];
        error = null;
        return text;
    }

    private static void index(int value, int count) {
        if (value < 0 || value >= count) {
            throw new IndexOutOfBoundsException();
        }
    }

    private void cell(int cell) {
        index(cell, city.heights.size());
    }

    private void pair(int boots) {
        index(boots, city.boots.size());
    }

    private static void range(int value, int least, int most) {
        if (value < least || value > most) {
            throw new IllegalArgumentException();
        }
    }

    private static void state(boolean possible) {
        if (!possible) {
            throw new IllegalStateException();
        }
    }

    private void change() {
        changes.addLast(city.copy());
        if (changes.size() > 8) {
            changes.removeFirst();
        }
    }

    int appendInput(int a, int b, int c, int d, int e) {
        if (input.length > 580) {
            return NONE;
        }
        java.nio.ByteBuffer bytes = java.nio.ByteBuffer.allocate(input.length + 20);
        bytes.put(input).putInt(a).putInt(b).putInt(c).putInt(d).putInt(e);
        input = bytes.array();
        return input.length;
    }

    boolean truncateInput(int length) {
        boolean possible = length >= 0 && length <= input.length;
        input = possible ? Arrays.copyOf(input, length) : input;
        return possible;
    }

    int loadSetup() {
        try {
            city = parseSetup(takeInput());
        } catch (TextError found) {
            error = found;
            return NONE;
        }
        changes.clear();
        saved = null;
        return city.heights.size();
    }

    int runScript() {
        List<int[]> statements;
        try {
            statements = parseScript(takeInput());
        } catch (TextError found) {
            error = found;
            return NONE;
        }
        List<City> before = new ArrayList<>(changes);
        City start = city.copy();
        int executed = 0;
        try {
            for (int[] one : statements) {
                execute(one);
                executed++;
            }
        } catch (IllegalStateException refused) {
            // the statements before it remain executed
        }
        changes.clear();
        changes.addAll(before);
        changes.addLast(start);
        if (changes.size() > 8) {
            changes.removeFirst();
        }
        return executed;
    }

    private void execute(int[] one) {
        switch (one[0]) {
            case 0 -> setRain(one[1]);
            case 1 -> burst(one[1], one[2], one[3]);
            case 2 -> shut(one[1]);
            case 3 -> dropLeaves(one[1], one[2]);
            case 4 -> sweep(one[1]);
            case 5 -> walk(one[1], one[2]);
            case 6 -> splash(one[1]);
            default -> passMinutes(one[1]);
        }
    }

    int errorCode() {
        return error == null ? PuddleCity.NO_ERROR : error.code;
    }

    int errorOffset() {
        return error == null ? NONE : error.offset;
    }

    int minute() {
        return city.minute;
    }

    int columnCount() {
        return city.columns;
    }

    int rowCount() {
        return city.heights.size() / city.columns;
    }

    int rain() {
        return city.rain;
    }

    int heightOf(int cell) {
        cell(cell);
        return city.heights.get(cell);
    }

    int waterOn(int cell) {
        cell(cell);
        return city.water[cell];
    }

    int levelOf(int cell) {
        cell(cell);
        return city.level(cell);
    }

    int leavesOn(int cell) {
        cell(cell);
        return city.leaves[cell];
    }

    int gutterCapacity(int cell) {
        cell(cell);
        return city.gutters.getOrDefault(cell, 0);
    }

    int gutterFlow(int cell) {
        cell(cell);
        return city.gutterFlow(cell);
    }

    boolean isPlugged(int cell) {
        cell(cell);
        return city.gutters.containsKey(cell) && city.gutterFlow(cell) == 0;
    }

    int hydrantRate(int cell) {
        cell(cell);
        return city.times[cell] > 0 ? city.rates[cell] : 0;
    }

    int hydrantMinutes(int cell) {
        cell(cell);
        return city.times[cell];
    }

    int flowsTo(int cell) {
        cell(cell);
        return city.flow(cell) == 0 ? NONE : city.lowest(cell);
    }

    int flowFrom(int cell) {
        cell(cell);
        return city.flow(cell);
    }

    int neighbour(int cell, int direction) {
        cell(cell);
        range(direction, 0, 3);
        return city.beside(cell, direction);
    }

    /** The smallest cell of the puddle of a cell, found by going on as long as something changes. */
    private int[] smallestCells() {
        int[] smallest = new int[city.heights.size()];
        for (int cell = 0; cell < smallest.length; cell++) {
            smallest[cell] = city.water[cell] > 0 ? cell : NONE;
        }
        boolean changed = true;
        while (changed) {
            changed = false;
            for (int cell = 0; cell < smallest.length; cell++) {
                for (int direction = 0; direction < 4 && smallest[cell] != NONE; direction++) {
                    int other = city.beside(cell, direction);
                    if (other != NONE && smallest[other] != NONE && smallest[other] < smallest[cell]) {
                        smallest[cell] = smallest[other];
                        changed = true;
                    }
                }
            }
        }
        return smallest;
    }

    private List<Integer> puddles() {
        TreeSet<Integer> found = new TreeSet<>();
        for (int smallest : smallestCells()) {
            if (smallest != NONE) {
                found.add(smallest);
            }
        }
        return new ArrayList<>(found);
    }

    int puddleCount() {
        return puddles().size();
    }

    int puddleOf(int cell) {
        cell(cell);
        return puddles().indexOf(smallestCells()[cell]);
    }

    int puddleSize(int puddle) {
        index(puddle, puddleCount());
        int size = 0;
        for (int smallest : smallestCells()) {
            size += smallest == puddles().get(puddle) ? 1 : 0;
        }
        return size;
    }

    int puddleWater(int puddle) {
        index(puddle, puddleCount());
        int sum = 0;
        for (int cell = 0; cell < city.water.length; cell++) {
            sum += smallestCells()[cell] == puddles().get(puddle) ? city.water[cell] : 0;
        }
        return sum;
    }

    int deepestCell() {
        int most = Arrays.stream(city.water).max().getAsInt();
        int cell = 0;
        while (city.water[cell] != most) {
            cell++;
        }
        return cell;
    }

    int waterTotal() {
        return Arrays.stream(city.water).sum();
    }

    int rained() {
        return city.rained;
    }

    int fromHydrants() {
        return city.given;
    }

    int drained() {
        return city.drained;
    }

    int evaporated() {
        return city.evaporated;
    }

    int bootsCount() {
        return city.boots.size();
    }

    int nameByte(int boots, int index) {
        pair(boots);
        String name = city.boots.get(boots).name();
        return index < 0 || index >= name.length() ? NONE : name.charAt(index);
    }

    int placeOf(int boots) {
        pair(boots);
        return city.places[boots];
    }

    int bootHeight(int boots) {
        pair(boots);
        return city.boots.get(boots).height();
    }

    boolean isWet(int boots) {
        pair(boots);
        return city.wet[boots];
    }

    int splashesOf(int boots) {
        pair(boots);
        return city.splashes[boots];
    }

    int dryWay(int boots, int cell) {
        pair(boots);
        cell(cell);
        TreeSet<Integer> reached = new TreeSet<>(List.of(city.places[boots]));
        for (int steps = 0; steps <= 64; steps++) {
            if (reached.contains(cell)) {
                return steps;
            }
            for (int from : List.copyOf(reached)) {
                for (int direction = 0; direction < 4; direction++) {
                    int other = city.beside(from, direction);
                    if (other != NONE && city.water[other] <= city.boots.get(boots).height()) {
                        reached.add(other);
                    }
                }
            }
        }
        return NONE;
    }

    int waterAfter(int cell, int minutes) {
        cell(cell);
        range(minutes, 0, 100);
        return city.later(minutes).water[cell];
    }

    int minutesUntilDry(int cell) {
        cell(cell);
        City later = city.copy();
        int minutes = 0;
        while (minutes <= 200 && later.water[cell] > 0) {
            later.minutePasses();
            minutes++;
        }
        return minutes > 200 ? NONE : minutes;
    }

    int drainedAfter(int minutes) {
        range(minutes, 0, 100);
        return city.later(minutes).drained;
    }

    double meanWater() {
        return (double) waterTotal() / (double) city.water.length;
    }

    float wetPart() {
        return (float) Arrays.stream(city.water).filter(units -> units > 0).count() / (float) city.water.length;
    }

    boolean isConsistent() {
        return true;
    }

    int setRain(int rate) {
        range(rate, 0, 9);
        change();
        int before = city.rain;
        city.rain = rate;
        return before;
    }

    int burst(int cell, int rate, int minutes) {
        cell(cell);
        range(rate, 1, 20);
        range(minutes, 1, 60);
        state(city.times[cell] == 0);
        change();
        city.rates[cell] = rate;
        city.times[cell] = minutes;
        return (int) Arrays.stream(city.times).filter(left -> left > 0).count();
    }

    int shut(int cell) {
        cell(cell);
        state(city.times[cell] > 0);
        change();
        int left = city.times[cell];
        city.times[cell] = 0;
        return left;
    }

    int dropLeaves(int cell, int count) {
        cell(cell);
        range(count, 1, 9);
        change();
        return city.leaves[cell] += count;
    }

    int sweep(int cell) {
        cell(cell);
        change();
        int swept = city.leaves[cell];
        city.leaves[cell] = 0;
        return swept;
    }

    int walk(int boots, int direction) {
        pair(boots);
        range(direction, 0, 3);
        int to = city.beside(city.places[boots], direction);
        state(to != NONE);
        change();
        city.places[boots] = to;
        city.dampen(boots);
        return to;
    }

    int splash(int boots) {
        pair(boots);
        int cell = city.places[boots];
        state(city.water[cell] > 0);
        change();
        int fifth = city.water[cell] / 5;
        int thrown = 0;
        for (int direction = 0; direction < 4; direction++) {
            if (city.beside(cell, direction) != NONE) {
                city.water[city.beside(cell, direction)] += fifth;
                city.water[cell] -= fifth;
                thrown += fifth;
            }
        }
        city.splashes[boots]++;
        return thrown;
    }

    int passMinutes(int minutes) {
        range(minutes, 1, 60);
        state(city.minute + minutes <= 999);
        change();
        int before = city.drained;
        city = city.later(minutes);
        return city.drained - before;
    }

    int undo() {
        if (changes.isEmpty()) {
            throw new NoSuchElementException();
        }
        city = changes.removeLast();
        return changes.size();
    }

    int writeRow(int row) {
        index(row, rowCount());
        StringBuilder written = new StringBuilder();
        for (int cell = row * city.columns; cell < (row + 1) * city.columns; cell++) {
            int units = city.water[cell];
            written.append(units == 0 ? "." : units > 9 ? "+" : String.valueOf(units));
            written.append(city.leaves[cell] > 0 ? "%" : "");
        }
        output = written.toString();
        return output.length();
    }

    int outputByte(int index) {
        return index < 0 || index >= output.length() ? NONE : output.charAt(index);
    }

    int saveState() {
        saved = city.copy();
        return city.minute;
    }

    int restoreState() {
        if (saved == null) {
            throw new NoSuchElementException();
        }
        city = saved.copy();
        changes.clear();
        return city.minute;
    }
}
