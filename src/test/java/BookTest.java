import java.lang.reflect.InvocationTargetException;
import java.lang.reflect.Method;
import java.lang.reflect.Modifier;
import java.util.ArrayList;
import java.util.Arrays;
import java.util.List;
import java.util.Random;
import java.util.TreeSet;

/** All promises: runs of at most 512 calls, made by chance, in which the class answers as ByTheBook does. */
public final class BookTest {
    private static final int RUNS = 1200;
    private static final int CALLS = 512;

    /** The kinds of numbers: c a cat, h a chimney, g a gutter, w a warmth, s a size, f fish, t and n nights, m nights or none. */
    private static final String[] CHANGES = {"addChimney w", "addGutter hhs", "addGutter hhs", "addCat hss", "step cg", "step cg", "step cg",
        "claim c", "claim c", "abandon h", "chase cc", "chase cc", "buyTruce ccft", "nominate ss", "vote cb", "vote cb", "vote cb", "vote cb",
        "passNights n", "undo", "undo", "saveSnapshot", "restoreSnapshot"};
    private static final String[] QUESTIONS = {"undoCount", "scriptErrorKind", "scriptErrorOffset", "chimneyCount", "gutterCount", "catCount",
        "night", "moonPhase", "warmth h", "ownerOf h", "catOn h", "gutterEnds g", "width g", "widestWay hh", "warmestFree", "girth c",
        "power c", "fish c", "chimneyOf c", "ownedChimneys c", "truceNights cc", "reachable c", "stepsTo ch", "openGutters c",
        "whyNoStep cg", "whyNoClaim c", "whyNoChase cc", "preyOf c", "isKittenWaiting", "votesFor", "votesAgainst", "hasVoted c",
        "choirOf c", "choirCount", "largestChoir", "nightsToFullMoon", "fishAfter cm", "richestCat", "totalFish", "meanFish", "ownedShare",
        "violations", "writeRoof", "reportByte i"};
    private static final String CROWD = "roof;chimney 9;chimney 3;chimney 6;chimney 0;chimney 9;chimney 4;chimney 8;"
            + "gutter 0 1 9;gutter 1 2 6;gutter 2 3 9;gutter 3 4 5;gutter 4 0 3;gutter 4 5 7;gutter 5 6 9;"
            + "cat 0 1 9;claim 0;cat 2 3 4;cat 3 2 8;claim 2;cat 6 5 1;cat 5 4 2;claim 3;";
    private static final String[] STARTS = {Text.FIRST, CROWD, CROWD + "repeat 16(nights 30;);repeat 16(nights 30;);nights 20;",
        CROWD + "repeat 6(gutter 0 5 2;gutter 6 1 4;);", CROWD + "chimney 2;chimney 2;kitten 2 7;repeat 5(nights 8;);"};

    private static final TreeSet<String> outcomes = new TreeSet<>();

    private final Random random;
    private final RooftopCats x = new RooftopCats();
    private final ByTheBook book = new ByTheBook();
    private final List<String> made = new ArrayList<>();
    private boolean alike = true;

    private BookTest(int seed) {
        random = new Random(seed);
    }

    public static void main(String[] args) {
        for (int seed = 0; seed < RUNS; seed++) {
            new BookTest(seed).run();
        }
        List<String> calls = new ArrayList<>(Arrays.asList(CHANGES));
        calls.addAll(Arrays.asList(QUESTIONS));
        calls.addAll(List.of("append xxxxx", "truncateInput l", "runScript"));
        for (Method method : RooftopCats.class.getDeclaredMethods()) {
            if (Modifier.isPublic(method.getModifiers())) {
                Check.that(method.getName() + " is called", calls.stream().anyMatch(call -> call.split(" ")[0].equals(method.getName())), true);
                everyOutcome(method);
            }
        }
        Check.end("BookTest");
    }

    /** Each call has answered, and has thrown each exception that it may throw. */
    private static void everyOutcome(Method method) {
        Check.that(method.getName() + " answers", outcomes.contains(method.getName() + " answers"), true);
        for (Class<?> exception : method.getExceptionTypes()) {
            String outcome = method.getName() + " throws " + exception.getSimpleName();
            Check.that(outcome, outcomes.contains(outcome), true);
        }
    }

    private void run() {
        script(STARTS[random.nextInt(STARTS.length)]);
        while (made.size() < CALLS && alike) {
            int dice = random.nextInt(400);
            if (dice < 2) {
                script(ScriptWalkTest.script(random));
            } else if (dice < 3) {
                script(STARTS[random.nextInt(STARTS.length)]);
            } else if (dice < 4) {
                call("append", bytes(random.nextInt(4) == 0));
            } else if (dice < 6) {
                call("truncateInput", number(0, 20));
            } else if (dice < 130) {
                call(CHANGES[random.nextInt(CHANGES.length)]);
            } else {
                call(QUESTIONS[random.nextInt(QUESTIONS.length)]);
            }
        }
    }

    private void script(String text) {
        call("truncateInput", 0);
        for (int from = 0; from < text.length() && from < 600; from += 20) {
            call("append", Text.four(text, from), Text.four(text, from + 4), Text.four(text, from + 8), Text.four(text, from + 12),
                    Text.four(text, from + 16));
        }
        call("truncateInput", Math.min(600, text.length()));
        if (random.nextInt(8) == 0) {
            // Whatever lies behind the script: mostly an error.
            call("append", bytes(true));
        }
        call("runScript");
        call("scriptErrorKind");
        call("scriptErrorOffset");
    }

    private Object[] bytes(boolean wild) {
        Object[] five = new Object[5];
        for (int i = 0; i < 5; i++) {
            five[i] = wild ? random.nextInt() : 0x20202020;
        }
        return five;
    }

    private void call(String line) {
        String[] parts = line.split(" ");
        String kinds = parts.length == 1 ? "" : parts[1];
        Object[] arguments = new Object[kinds.length()];
        for (int i = 0; i < arguments.length; i++) {
            arguments[i] = argument(kinds.charAt(i));
        }
        call(parts[0], arguments);
    }

    private Object argument(char kind) {
        switch (kind) {
            case 'c': return number(0, book.catCount() - 1);
            case 'h': return number(0, book.chimneyCount() - 1);
            case 'g': return number(0, book.gutterCount() - 1);
            case 'w': return number(0, 9);
            case 's': return number(1, random.nextBoolean() ? 9 : 4);
            case 'f': return number(1, 9);
            case 't': return number(1, 20);
            case 'n': return number(1, random.nextInt(3) == 0 ? 30 : 3);
            case 'm': return number(0, 30);
            case 'i': return number(0, 58);
            default: return random.nextInt(3) > 0;
        }
    }

    /** Mostly a number of the range, sometimes one near it or far from it. */
    private int number(int least, int most) {
        if (random.nextInt(20) == 0 || most < least) {
            int[] outside = Check.outside(least, most);
            return outside[random.nextInt(outside.length)];
        }
        return least + random.nextInt(most - least + 1);
    }

    private void call(String name, Object... arguments) {
        if (made.size() >= CALLS || !alike) {
            return;
        }
        made.add(name + Arrays.toString(arguments));
        String got = answer(x, name, arguments);
        String due = answer(book, name, arguments);
        outcomes.add(name + (due.startsWith("throws") ? " " + due : " answers"));
        alike = got.equals(due);
        Check.that(alike ? name : String.join("\n", made), got, due);
    }

    static String answer(Object roof, String name, Object... arguments) {
        try {
            return String.valueOf(method(roof, name).invoke(roof, arguments));
        } catch (InvocationTargetException e) {
            return "throws " + e.getCause().getClass().getSimpleName();
        } catch (IllegalAccessException e) {
            return "is hidden";
        }
    }

    private static Method method(Object roof, String name) {
        for (Method method : roof.getClass().getDeclaredMethods()) {
            if (method.getName().equals(name) && Modifier.isPublic(method.getModifiers())) {
                return method;
            }
        }
        throw new IllegalArgumentException(name);
    }
}
