import java.lang.reflect.Constructor;
import java.lang.reflect.Field;
import java.lang.reflect.Method;
import java.lang.reflect.Modifier;
import java.util.Arrays;
import java.util.TreeSet;

/** The public face and the constants. */
public final class FaceTest {
    private static final String I = "IndexOutOfBoundsException", A = "IllegalArgumentException", S = "IllegalStateException";
    private static final String[] FACE = {
        "int append(int, int, int, int, int)",
        "int truncateInput(int) " + A,
        "int runScript()",
        "int addChimney(int) " + A + " " + S,
        "int addGutter(int, int, int) " + I + " " + A + " " + S,
        "int addCat(int, int, int) " + I + " " + A + " " + S,
        "int step(int, int) " + I + " " + S,
        "int claim(int) " + I + " " + S,
        "int abandon(int) " + I + " " + S,
        "boolean chase(int, int) " + I + " " + A + " " + S,
        "int buyTruce(int, int, int, int) " + I + " " + A + " " + S,
        "int nominate(int, int) " + A + " " + S,
        "boolean vote(int, boolean) " + I + " " + S,
        "int passNights(int) " + A + " " + S,
        "int undo()", "int undoCount()", "int saveSnapshot()",
        "int restoreSnapshot() NoSuchElementException",
        "int scriptErrorKind()", "int scriptErrorOffset()",
        "int chimneyCount()", "int gutterCount()", "int catCount()", "int night()", "int moonPhase()",
        "int warmth(int) " + I, "int ownerOf(int) " + I, "int catOn(int) " + I,
        "int gutterEnds(int) " + I, "int width(int) " + I, "int widestWay(int, int) " + I, "int warmestFree()",
        "int girth(int) " + I, "int power(int) " + I, "int fish(int) " + I, "int chimneyOf(int) " + I,
        "int ownedChimneys(int) " + I, "int truceNights(int, int) " + I + " " + A, "int reachable(int) " + I,
        "int stepsTo(int, int) " + I, "int openGutters(int) " + I,
        "int whyNoStep(int, int) " + I, "int whyNoClaim(int) " + I, "int whyNoChase(int, int) " + I + " " + A,
        "int preyOf(int) " + I,
        "boolean isKittenWaiting()", "int votesFor()", "int votesAgainst()", "boolean hasVoted(int) " + I,
        "int choirOf(int) " + I, "int choirCount()", "int largestChoir()", "int nightsToFullMoon()",
        "int fishAfter(int, int) " + I + " " + A, "int richestCat()", "int totalFish()",
        "double meanFish()", "float ownedShare()", "int violations()", "int writeRoof()", "int reportByte(int)",
    };
    private static final String[] CONSTANTS = {
        "NONE -1", "ALLOWED 0", "NOT_HERE 1", "TOO_NARROW 2", "OCCUPIED 3", "TRESPASS 4", "OWNED 5", "OWNS_ENOUGH 6",
        "NOT_NEAR 7", "IN_TRUCE 8", "TOO_WEAK 9",
    };

    public static void main(String[] args) throws IllegalAccessException {
        Class<?> face = RooftopCats.class;
        Check.that("public and final", face.getModifiers() & (Modifier.PUBLIC | Modifier.FINAL), Modifier.PUBLIC | Modifier.FINAL);

        TreeSet<String> methods = new TreeSet<>();
        TreeSet<String> names = new TreeSet<>();
        for (Method method : face.getDeclaredMethods()) {
            if (!Modifier.isPrivate(method.getModifiers())) {
                methods.add(written(method));
                names.add(method.getName());
                Check.that(method + " is public and not static", method.getModifiers(), Modifier.PUBLIC);
            }
        }
        Check.that("methods", methods.toString(), new TreeSet<>(Arrays.asList(FACE)).toString());
        for (Method method : face.getDeclaredMethods()) {
            if (Modifier.isPrivate(method.getModifiers())) {
                Check.that("private " + method.getName() + " bears a public name", names.contains(method.getName()), false);
            }
        }

        TreeSet<String> constants = new TreeSet<>();
        for (Field field : face.getDeclaredFields()) {
            if (!Modifier.isPrivate(field.getModifiers())) {
                constants.add(field.getName() + " " + field.getInt(null));
                Check.that(field.getName(), field.getModifiers(), Modifier.PUBLIC | Modifier.STATIC | Modifier.FINAL);
            }
        }
        Check.that("constants", constants.toString(), new TreeSet<>(Arrays.asList(CONSTANTS)).toString());

        Constructor<?>[] constructors = face.getDeclaredConstructors();
        Check.that("constructors", constructors.length, 1);
        Check.that("constructor", constructors[0].toString(), "public RooftopCats()");
        Check.end("FaceTest");
    }

    private static String written(Method method) {
        StringBuilder text = new StringBuilder();
        text.append(method.getReturnType()).append(' ').append(method.getName());
        text.append(Arrays.toString(method.getParameterTypes()).replace('[', '(').replace(']', ')'));
        for (Class<?> thrown : method.getExceptionTypes()) {
            text.append(' ').append(thrown.getSimpleName());
        }
        return text.toString();
    }
}
