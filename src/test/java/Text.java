/** Brings scripts into the input buffer. */
final class Text {
    /** The script of promise 1. */
    static final String FIRST = "roof; chimney 6; chimney 3; chimney 9; chimney 0; chimney 4; gutter 0 1 5; gutter 1 2 3; "
            + "gutter 2 3 7; gutter 0 3 2; gutter 3 4 9; cat 0 4 5; cat 2 3 6; cat 4 6 3; claim 0; claim 1; truce 2 1 2 6; nights 3;";

    private Text() {
    }

    /** Appends a text to an empty buffer; a character stands for a byte. */
    static void put(RooftopCats x, String text) {
        for (int i = 0; i < text.length(); i += 20) {
            x.append(four(text, i), four(text, i + 4), four(text, i + 8), four(text, i + 12), four(text, i + 16));
        }
        x.truncateInput(text.length());
    }

    static int four(String text, int from) {
        int value = 0;
        for (int i = from; i < from + 4; i++) {
            value = value << 8 | (i < text.length() ? text.charAt(i) & 255 : 0);
        }
        return value;
    }

    static int run(RooftopCats x, String text) {
        put(x, text);
        return x.runScript();
    }

    /** A new object on which a script without an error has run. */
    static RooftopCats roof(String text) {
        RooftopCats x = new RooftopCats();
        run(x, text);
        Check.that("error of " + text + " at " + x.scriptErrorOffset(), x.scriptErrorKind(), 0);
        return x;
    }

    /** The script has an error of this kind at the sign ^, which is taken out; nothing else changes. */
    static void errorAt(int kind, String marked) {
        String text = marked.replace("^", "");
        RooftopCats x = new RooftopCats();
        String before = Look.atRoof(x);
        Check.that("run of " + text, run(x, text), RooftopCats.NONE);
        Check.that("error kind of " + text, x.scriptErrorKind(), kind);
        Check.that("error offset of " + text, x.scriptErrorOffset(), marked.indexOf('^'));
        Check.that("roof after " + text, Look.atRoof(x), before);
        Check.that("undo count after " + text, x.undoCount(), 0);
    }

    /** The script has no error. */
    static void right(String text) {
        RooftopCats x = roof(text);
        Check.that("offset without an error", x.scriptErrorOffset(), RooftopCats.NONE);
        Check.that("violations", x.violations(), 0);
        Check.that("undo count", x.undoCount(), 1);
    }
}
