import java.lang.reflect.Constructor;
import java.lang.reflect.Field;
import java.lang.reflect.Member;
import java.lang.reflect.Method;
import java.lang.reflect.Modifier;
import java.util.TreeSet;

/** The public face: every constant, the constructor and every method of the document, and no more. */
final class FaceTest {
    private static final String I = "IndexOutOfBoundsException";
    private static final String A = "IllegalArgumentException";
    private static final String S = "IllegalStateException";
    private static final String N = "NoSuchElementException";

    private static final String[] METHODS = {
        "int appendInput(int,int,int,int,int)", "boolean truncateInput(int)", "int loadSetup()",
        "int runScript()", "int errorCode()", "int errorOffset()", "int minute()",
        "int columnCount()", "int rowCount()", "int rain()", "int heightOf(int) " + I,
        "int waterOn(int) " + I, "int levelOf(int) " + I, "int leavesOn(int) " + I,
        "int gutterCapacity(int) " + I, "int gutterFlow(int) " + I, "boolean isPlugged(int) " + I,
        "int hydrantRate(int) " + I, "int hydrantMinutes(int) " + I, "int flowsTo(int) " + I,
        "int flowFrom(int) " + I, "int neighbour(int,int) " + I + " " + A, "int puddleCount()",
        "int puddleOf(int) " + I, "int puddleSize(int) " + I, "int puddleWater(int) " + I,
        "int deepestCell()", "int waterTotal()", "int rained()", "int fromHydrants()",
        "int drained()", "int evaporated()", "int bootsCount()", "int nameByte(int,int) " + I,
        "int placeOf(int) " + I, "int bootHeight(int) " + I, "boolean isWet(int) " + I,
        "int splashesOf(int) " + I, "int dryWay(int,int) " + I,
        "int waterAfter(int,int) " + I + " " + A, "int minutesUntilDry(int) " + I,
        "int drainedAfter(int) " + A, "double meanWater()", "float wetPart()",
        "boolean isConsistent()", "int setRain(int) " + A,
        "int burst(int,int,int) " + I + " " + A + " " + S, "int shut(int) " + I + " " + S,
        "int dropLeaves(int,int) " + I + " " + A, "int sweep(int) " + I,
        "int walk(int,int) " + I + " " + A + " " + S, "int splash(int) " + I + " " + S,
        "int passMinutes(int) " + A + " " + S, "int undo() " + N, "int writeRow(int) " + I,
        "int outputByte(int)", "int saveState()", "int restoreState() " + N
    };

    private static final String[] CONSTANTS = {
        "NONE=-1", "NO_ERROR=0", "SYNTAX=1", "OUT_OF_RANGE=2", "BAD_NAME=3", "TOO_MANY=4",
        "TOO_FEW=5", "NORTH=0", "EAST=1", "SOUTH=2", "WEST=3"
    };

    public static void main(String[] args) throws IllegalAccessException {
        Check.same("the class's modifiers", PuddleCity.class.getModifiers(),
                Modifier.PUBLIC | Modifier.FINAL);
        methods();
        constants();
        Constructor<?>[] constructors = PuddleCity.class.getDeclaredConstructors();
        Check.same("constructors", constructors.length, 1);
        Check.same("parameters of the constructor", constructors[0].getParameterCount(), 0);
        Check.yes("public constructor", Modifier.isPublic(constructors[0].getModifiers()));
        Check.finish();
    }

    private static void methods() {
        TreeSet<String> found = new TreeSet<>();
        TreeSet<String> hidden = new TreeSet<>();
        for (Method method : PuddleCity.class.getDeclaredMethods()) {
            if (isVisible(method)) {
                found.add(described(method));
            } else {
                hidden.add(method.getName());
            }
        }
        Check.same("the face's methods", found.toString(),
                new TreeSet<>(java.util.List.of(METHODS)).toString());
        for (Method method : PuddleCity.class.getDeclaredMethods()) {
            Check.no("private method with a public name " + method.getName(),
                    isVisible(method) && hidden.contains(method.getName()));
        }
    }

    private static void constants() throws IllegalAccessException {
        TreeSet<String> found = new TreeSet<>();
        for (Field field : PuddleCity.class.getDeclaredFields()) {
            if (isVisible(field)) {
                Check.same("modifiers of " + field.getName(), field.getModifiers(),
                        Modifier.PUBLIC | Modifier.STATIC | Modifier.FINAL);
                Check.yes("type of " + field.getName(), field.getType() == int.class);
                found.add(field.getName() + "=" + field.getInt(null));
            }
        }
        Check.same("the face's constants", found.toString(),
                new TreeSet<>(java.util.List.of(CONSTANTS)).toString());
    }

    private static boolean isVisible(Member member) {
        return !Modifier.isPrivate(member.getModifiers()) && !member.isSynthetic();
    }

    private static String described(Method method) {
        StringBuilder all = new StringBuilder();
        all.append(method.getReturnType().getName()).append(' ').append(method.getName()).append('(');
        for (int i = 0; i < method.getParameterCount(); i++) {
            all.append(i == 0 ? "" : ",").append(method.getParameterTypes()[i].getName());
        }
        all.append(')');
        for (Class<?> thrown : method.getExceptionTypes()) {
            all.append(' ').append(thrown.getSimpleName());
        }
        return all.toString();
    }
}
