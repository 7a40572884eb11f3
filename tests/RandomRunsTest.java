import java.lang.reflect.InvocationTargetException;
import java.lang.reflect.Method;
import java.util.ArrayList;
import java.util.Comparator;
import java.util.HashMap;
import java.util.List;
import java.util.Map;
import java.util.Random;

/** Runs of chance calls, each answered by the class and by the model; the seeds are always the same. */
final class RandomRunsTest {
    private static final int RUNS = 400;
    private static final int CALLS = 512;
    private static final int[] FAR = {Integer.MIN_VALUE, Integer.MAX_VALUE, -2, 64, 1000, 1 << 30};
    private static final String[] VERBS = {
        "rain", "burst", "shut", "leaves", "sweep", "walk", "splash", "pass", "row", "gutter", "boots"
    };
    private static final String[] NAMES = {"ann", "bob", "a", "walk", "abcdef", "abcdefg", "zz"};

    private final Random chance;
    private final List<Method> methods = new ArrayList<>();
    private final Map<String, Method> ofModel = new HashMap<>();
    private PuddleCity city = new PuddleCity();
    private Model model = new Model();
    private String log = "";

    private RandomRunsTest(long seed) {
        chance = new Random(seed);
        for (Method method : PuddleCity.class.getMethods()) {
            if (method.getDeclaringClass() == PuddleCity.class) {
                methods.add(method);
            }
        }
        methods.sort(Comparator.comparing(Method::getName));
        for (Method method : Model.class.getDeclaredMethods()) {
            ofModel.put(method.getName(), method);
        }
    }

    public static void main(String[] args) throws IllegalAccessException {
        long wrong = 0;
        for (int seed = 0; seed < RUNS && wrong < 3; seed++) {
            if (!new RandomRunsTest(seed).run()) {
                wrong++;
            }
        }
        Check.same("runs that differ", wrong, 0);
        Check.finish();
    }

    private boolean run() throws IllegalAccessException {
        int calls = 0;
        while (calls < CALLS) {
            int kind = chance.nextInt(10);
            if (kind == 0) {
                String text = chance.nextInt(3) == 0 ? setup() : script();
                calls += text.length() / 20 + 5;
                String reader = chance.nextInt(6) == 0 ? other(text) : reader(text);
                if (!feed(spoiled(text)) || !call(reader) || !call("errorCode") || !call("errorOffset")) {
                    return false;
                }
            } else {
                calls++;
                Method method = methods.get(chance.nextInt(methods.size()));
                boolean rare = method.getName().endsWith("Input") || method.getName().startsWith("restore")
                        || method.getName().equals("loadSetup");
                if (rare && chance.nextInt(4) != 0) {
                    method = named("passMinutes");
                }
                if (!call(method, numbers(method))) {
                    return false;
                }
            }
        }
        return true;
    }

    private static String reader(String text) {
        return text.startsWith("row") ? "loadSetup" : "runScript";
    }

    private static String other(String text) {
        return text.startsWith("row") ? "runScript" : "loadSetup";
    }

    private Method named(String name) {
        for (Method method : methods) {
            if (method.getName().equals(name)) {
                return method;
            }
        }
        throw new IllegalStateException(name);
    }

    private boolean call(String name, Integer... numbers) throws IllegalAccessException {
        return call(named(name), numbers);
    }

    private boolean call(Method method, Integer[] numbers) throws IllegalAccessException {
        String due = answer(ofModel.get(method.getName()), model, numbers);
        String got = answer(method, city, numbers);
        String told = method.getName() + List.of(numbers) + " -> " + got + "\n";
        log += told;
        if (!got.equals(due)) {
            Check.fail("...\n" + log.substring(Math.max(0, log.length() - 3000)) + "due is " + due);
            return false;
        }
        return true;
    }

    private static String answer(Method method, Object object, Integer[] numbers) throws IllegalAccessException {
        try {
            return String.valueOf(method.invoke(object, (Object[]) numbers));
        } catch (InvocationTargetException thrown) {
            return thrown.getCause().getClass().getName();
        }
    }

    private Integer[] numbers(Method method) {
        Integer[] numbers = new Integer[method.getParameterCount()];
        for (int i = 0; i < numbers.length; i++) {
            numbers[i] = number(method.getName(), i);
        }
        return numbers;
    }

    private int number(String method, int place) {
        if (chance.nextInt(25) == 0) {
            return FAR[chance.nextInt(FAR.length)];
        }
        boolean ofBoots = method.equals("nameByte") || method.equals("placeOf") || method.equals("bootHeight")
                || method.equals("isWet") || method.equals("splashesOf") || method.equals("dryWay")
                || method.equals("walk") || method.equals("splash");
        if (ofBoots && place == 0) {
            return chance.nextInt(6) - 1;
        }
        switch (method) {
            case "walk":
            case "neighbour":
                return place == 0 ? cell() : chance.nextInt(6) - 1;
            case "passMinutes":
                return chance.nextInt(10) == 0 ? chance.nextInt(70) - 3 : chance.nextInt(12);
            case "waterAfter":
            case "drainedAfter":
                return method.equals("waterAfter") && place == 0 ? cell() : chance.nextInt(107) - 3;
            case "setRain":
                return chance.nextInt(3) == 0 ? chance.nextInt(12) - 1 : 0;
            case "burst":
                return place == 0 ? cell() : place == 1 ? chance.nextInt(23) - 1 : chance.nextInt(64) - 1;
            case "dropLeaves":
                return place == 0 ? cell() : chance.nextInt(12) - 1;
            case "nameByte":
            case "writeRow":
                return chance.nextInt(10) - 1;
            case "puddleSize":
            case "puddleWater":
                return chance.nextInt(5) - 1;
            case "outputByte":
                return chance.nextInt(19) - 1;
            case "appendInput":
                return 0x20202020;
            case "truncateInput":
                return chance.nextInt(50) - 2;
            default:
                return cell();
        }
    }

    private int cell() {
        return chance.nextInt(city.columnCount() * city.rowCount() + 3) - 1;
    }

    private String setup() {
        StringBuilder text = new StringBuilder();
        int rows = 2 + chance.nextInt(chance.nextInt(3) == 0 ? 7 : 4);
        int columns = 2 + chance.nextInt(chance.nextInt(3) == 0 ? 7 : 4);
        int highest = 1 + chance.nextInt(10);
        for (int row = 0; row < rows; row++) {
            text.append("row");
            for (int column = 0; column < columns; column++) {
                text.append(' ').append(chance.nextInt(highest));
            }
            text.append(';');
            if (chance.nextInt(4) == 0) {
                text.append("rain ").append(chance.nextInt(10)).append(";");
            }
        }
        int gutters = chance.nextInt(6);
        for (int i = 0; i < gutters; i++) {
            text.append("gutter ").append(chance.nextInt(rows * columns)).append(' ')
                    .append(1 + chance.nextInt(9)).append(";\n");
        }
        int boots = chance.nextInt(5);
        for (int i = 0; i < boots; i++) {
            String name = chance.nextInt(12) == 0 ? NAMES[chance.nextInt(NAMES.length)] : NAMES[i];
            text.append("boots ").append(name).append(' ').append(chance.nextInt(rows * columns)).append(' ')
                    .append(1 + chance.nextInt(9)).append("; ");
        }
        return text.toString();
    }

    private String script() {
        StringBuilder text = new StringBuilder();
        int statements = chance.nextInt(10) == 0 ? 29 + chance.nextInt(4) : chance.nextInt(12);
        int cells = city.columnCount() * city.rowCount();
        for (int i = 0; i < statements; i++) {
            String verb = VERBS[chance.nextInt(8)];
            text.append(verb).append(' ');
            int pair = chance.nextInt(Math.max(1, city.bootsCount()));
            String name = city.bootsCount() == 0 ? "ann" : Check.name(city, pair);
            int most = verb.equals("burst") ? 20 : 9;
            switch (verb) {
                case "rain" -> text.append(chance.nextInt(10));
                case "walk" -> text.append(name).append(' ').append(chance.nextInt(4));
                case "splash" -> text.append(name);
                case "pass" -> text.append(1 + chance.nextInt(chance.nextInt(4) == 0 ? 60 : 6));
                default -> text.append(chance.nextInt(cells));
            }
            if (verb.equals("burst") || verb.equals("leaves")) {
                text.append(' ').append(1 + chance.nextInt(most));
            }
            if (verb.equals("burst")) {
                text.append(' ').append(1 + chance.nextInt(60));
            }
            text.append(chance.nextInt(5) == 0 ? " ;\n" : ";");
        }
        return text.toString();
    }

    /** The text as it is or, every other time, with a few signs or tokens changed. */
    private String spoiled(String text) {
        StringBuilder all = new StringBuilder(text);
        int spoils = chance.nextInt(2) == 0 ? 0 : 1 + chance.nextInt(2);
        for (int i = 0; i < spoils && all.length() > 0; i++) {
            int at = chance.nextInt(all.length());
            switch (chance.nextInt(9)) {
                case 0 -> all.deleteCharAt(at);
                case 1 -> all.setCharAt(at, (char) chance.nextInt(256));
                case 2 -> all.insert(at, (char) chance.nextInt(256));
                case 3 -> all.insert(at, chance.nextInt(120));
                case 4 -> all.insert(at, " " + VERBS[chance.nextInt(VERBS.length)] + " ");
                case 5 -> all.insert(at, NAMES[chance.nextInt(NAMES.length)]);
                case 6 -> all.setLength(at);
                case 7 -> all.setCharAt(at, (char) ('0' + chance.nextInt(10)));
                default -> all.insert(at, ";");
            }
        }
        return all.length() > 600 ? all.substring(0, 600) : all.toString();
    }

    private boolean feed(String text) throws IllegalAccessException {
        boolean same = call("truncateInput", 0);
        for (int from = 0; from < text.length() && same; from += 20) {
            same = call("appendInput", Check.four(text, from), Check.four(text, from + 4),
                    Check.four(text, from + 8), Check.four(text, from + 12), Check.four(text, from + 16));
        }
        return same && call("truncateInput", text.length());
    }
}
