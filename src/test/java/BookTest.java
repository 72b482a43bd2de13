import java.lang.reflect.InvocationTargetException;
import java.lang.reflect.Method;
import java.lang.reflect.Modifier;
import java.util.ArrayList;
import java.util.Arrays;
import java.util.List;
import java.util.Random;
import java.util.TreeSet;

/** All promises: runs of at most 512 calls, made by chance, in which the class answers as ByTheBook does. */
public final class BookTest {
    private static final int RUNS = 600;
    private static final int CALLS = 512;

    /** The kinds of numbers: c a cat, h a chimney, g a gutter, w a warmth, s a size, f fish, t and n nights, m nights or none. */
    private static final String[] CHANGES = {"addChimney w", "addGutter hhs", "addGutter hhs", "addCat hss", "step cg", "step cg", "step cg",
        "claim c", "claim c", "abandon h", "chase cc", "chase cc", "buyTruce ccft", "nominate ss", "vote cb", "vote cb", "vote cb", "vote cb",
        "passNights n", "undo", "undo", "saveSnapshot", "restoreSnapshot"};
    private static final String[] QUESTIONS = {"undoCount", "scriptErrorKind", "scriptErrorOffset", "chimneyCount", "gutterCount", "catCount",
        "night", "moonPhase", "warmth h", "ownerOf h", "catOn h", "gutterEnds g", "width g", "widestWay hh", "warmestFree", "girth c",
        "power c", "fish c", "chimneyOf c", "ownedChimneys c", "truceNights cc", "reachable c", "stepsTo ch", "openGutters c",
        "whyNoStep cg", "whyNoClaim c", "whyNoChase cc", "preyOf c", "isKittenWaiting", "votesFor", "votesAgainst", "hasVoted c",
        "choirOf c", "choirCount", "largestChoir", "nightsToFullMoon", "fishAfter cm", "richestCat", "totalFish", "meanFish", "ownedShare",
        "violations", "writeRoof", "reportByte i"};
    private static final String CROWD = "roof;chimney 9;chimney 3;chimney 6;chimney 0;chimney 9;chimney 4;chimney 8;"
            + "gutter 0 1 9;gutter 1 2 6;gutter 2 3 9;gutter 3 4 5;gutter 4 0 3;gutter 4 5 7;gutter 5 6 9;"
            + "cat 0 1 9;claim 0;cat 2 3 4;cat 3 2 8;claim 2;cat 6 5 1;cat 5 4 2;claim 3;";
    /** A strong cat that owns four chimneys, among weak ones that own theirs. */
    private static final String GREEDY = "roof;repeat 9(chimney 7;);gutter 0 1 9;gutter 1 2 9;gutter 2 3 9;gutter 3 4 8;gutter 4 5 8;"
            + "gutter 3 6 9;gutter 6 7 9;gutter 7 0 9;cat 0 2 9;claim 0;step 0 0;claim 0;step 0 1;claim 0;step 0 2;claim 0;"
            + "cat 4 1 2;claim 1;cat 5 1 1;claim 2;cat 6 2 3;claim 3;cat 7 3 1;";
    private static final String FULL = "roof;repeat 10(chimney 5;);cat 0 1 1;cat 1 1 2;cat 2 1 3;cat 3 1 4;cat 4 1 5;cat 5 1 6;cat 6 1 7;cat 7 1 8;"
            + "claim 0;claim 1;claim 2;claim 3;claim 4;claim 5;claim 6;claim 7;gutter 0 1 3;gutter 1 2 3;gutter 2 3 3;gutter 3 4 3;gutter 7 8 3;";
    private static final String[] STARTS = {Text.FIRST, CROWD, CROWD + "repeat 16(nights 30;);repeat 16(nights 30;);nights 20;",
        CROWD + "repeat 6(gutter 0 5 2;gutter 6 1 4;);", CROWD + "repeat 13(gutter 0 5 2;);",
        CROWD + "chimney 2;chimney 2;kitten 2 7;repeat 5(nights 8;);", GREEDY, GREEDY, FULL};
    /** The commands of scripts, with the kinds of their numbers. */
    private static final String[] COMMANDS = {"chimney w", "gutter hhs", "cat hss", "step cg", "step cg", "claim c", "claim c", "abandon h",
        "chase cc", "chase cc", "truce ccft", "kitten ss", "yes c", "yes c", "no c", "nights n"};

    private static final TreeSet<String> outcomes = new TreeSet<>();

    private final Random random;
    private final RooftopCats x = new RooftopCats();
    private final ByTheBook book = new ByTheBook();
    private final List<String> made = new ArrayList<>();
    private boolean alike = true;

    private BookTest(int seed) {
        random = new Random(seed);
    }

    public static void main(String[] args) {
        for (int seed = 0; seed < RUNS; seed++) {
            new BookTest(seed).run();
        }
        for (String start : STARTS) {
            Check.that(start + " has no error", ByTheBook.runs(start), true);
        }
        everyNumber("whyNoStep", 0, 1, 2, 3, 4);
        everyNumber("whyNoClaim", 0, 5, 6);
        everyNumber("whyNoChase", 0, 7, 8, 9);
        everyNumber("scriptErrorKind", 0, 1, 2, 3, 4, 5);
        everyCall();
        Check.end("BookTest");
    }

    private static void everyNumber(String name, int... numbers) {
        for (int number : numbers) {
            Check.that(name + " answers " + number, outcomes.contains(name + " " + number), true);
        }
    }

    private static void everyCall() {
        for (Method method : RooftopCats.class.getDeclaredMethods()) {
            if (Modifier.isPublic(method.getModifiers())) {
                everyOutcome(method);
            }
        }
    }

    /** The call has answered, and has thrown each exception that it may throw. */
    private static void everyOutcome(Method method) {
        Check.that(method.getName() + " answers", outcomes.contains(method.getName() + " answers"), true);
        for (Class<?> exception : method.getExceptionTypes()) {
            String outcome = method.getName() + " throws " + exception.getSimpleName();
            Check.that(outcome, outcomes.contains(outcome), true);
        }
    }

    private void run() {
        if (random.nextInt(5) > 0) {
            script(STARTS[random.nextInt(STARTS.length)]);
        }
        while (made.size() < CALLS && alike) {
            int dice = random.nextInt(400);
            if (dice < 1) {
                script(ScriptWalkTest.script(random));
            } else if (dice < 2) {
                script(longScript());
            } else if (dice < 3) {
                script(STARTS[random.nextInt(STARTS.length)]);
            } else if (dice < 4) {
                call("append", bytes(random.nextInt(4) == 0));
            } else if (dice < 5 && random.nextInt(3) == 0) {
                fillBuffer();
            } else if (dice < 6) {
                call("truncateInput", number(0, 20));
            } else if (dice < 130) {
                call(CHANGES[random.nextInt(CHANGES.length)]);
            } else {
                call(QUESTIONS[random.nextInt(QUESTIONS.length)]);
            }
        }
    }

    /** As full as it gets, and then just so far that a call more has a place, or has none. */
    private void fillBuffer() {
        for (int i = 0; i < 31; i++) {
            call("append", bytes(false));
        }
        call("truncateInput", number(579, 581));
        call("append", bytes(false));
    }

    private void script(String text) {
        call("truncateInput", 0);
        for (int from = 0; from < text.length() && from < 600; from += 20) {
            call("append", Text.four(text, from), Text.four(text, from + 4), Text.four(text, from + 8), Text.four(text, from + 12),
                    Text.four(text, from + 16));
        }
        call("truncateInput", Math.min(600, text.length()));
        if (random.nextInt(8) == 0) {
            // Whatever lies behind the script: mostly an error.
            call("append", bytes(true));
        }
        call("runScript");
        call("scriptErrorKind");
        call("scriptErrorOffset");
    }

    /** Commands that are allowed one behind the other, but for the last one now and then. */
    private String longScript() {
        String text = STARTS[random.nextInt(STARTS.length)];
        for (int i = 0; i < 60; i++) {
            String more = text + statement();
            if (more.length() <= 600 && ByTheBook.runs(more)) {
                text = more;
            }
        }
        return random.nextInt(3) == 0 ? text + statement() : text;
    }

    private String statement() {
        String[] parts = COMMANDS[random.nextInt(COMMANDS.length)].split(" ");
        StringBuilder command = new StringBuilder(parts[0]);
        for (char kind : parts[1].toCharArray()) {
            int most = kind == 'c' ? 7 : kind == 't' ? 20 : kind == 'n' ? 30 : 9;
            command.append(' ').append(random.nextInt(40) == 0 ? most + 1 : random.nextInt(most + 1));
        }
        return random.nextInt(12) == 0 ? "repeat 2(" + command + ";);" : command + ";";
    }

    private Object[] bytes(boolean wild) {
        Object[] five = new Object[5];
        for (int i = 0; i < 5; i++) {
            five[i] = wild ? random.nextInt() : 0x20202020;
        }
        return five;
    }

    private void call(String line) {
        String[] parts = line.split(" ");
        String kinds = parts.length == 1 ? "" : parts[1];
        Object[] arguments = new Object[kinds.length()];
        for (int i = 0; i < arguments.length; i++) {
            arguments[i] = argument(kinds.charAt(i));
        }
        call(parts[0], arguments);
    }

    private Object argument(char kind) {
        switch (kind) {
            case 'c': return number(0, book.catCount() - 1);
            case 'h': return number(0, book.chimneyCount() - 1);
            case 'g': return number(0, book.gutterCount() - 1);
            case 'w': return number(0, 9);
            case 's': return number(1, random.nextBoolean() ? 9 : 4);
            case 'f': return number(1, 9);
            case 't': return number(1, 20);
            case 'n': return number(1, random.nextInt(3) == 0 ? 30 : 3);
            case 'm': return number(0, 30);
            case 'i': return number(0, 58);
            default: return random.nextInt(3) > 0;
        }
    }

    /** Mostly a number of the range, sometimes one near it or far from it. */
    private int number(int least, int most) {
        if (random.nextInt(20) == 0 || most < least) {
            int[] outside = Check.outside(least, most);
            return outside[random.nextInt(outside.length)];
        }
        return least + random.nextInt(most - least + 1);
    }

    private void call(String name, Object... arguments) {
        if (made.size() >= CALLS || !alike) {
            return;
        }
        made.add(name + Arrays.toString(arguments));
        String got = answer(x, name, arguments);
        String due = answer(book, name, arguments);
        outcomes.add(name + (due.startsWith("throws") ? " " + due : " answers"));
        if (name.startsWith("whyNo") || name.equals("scriptErrorKind")) {
            outcomes.add(name + " " + due);
        }
        alike = got.equals(due);
        Check.that(alike ? name : String.join("\n", made), got, due);
    }

    static String answer(Object roof, String name, Object... arguments) {
        try {
            return String.valueOf(method(roof, name).invoke(roof, arguments));
        } catch (InvocationTargetException e) {
            return "throws " + e.getCause().getClass().getSimpleName();
        } catch (IllegalAccessException e) {
            return "is hidden";
        }
    }

    private static Method method(Object roof, String name) {
        for (Method method : roof.getClass().getDeclaredMethods()) {
            if (method.getName().equals(name) && Modifier.isPublic(method.getModifiers())) {
                return method;
            }
        }
        throw new IllegalArgumentException(name);
    }
}
