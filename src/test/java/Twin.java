/**
 * Objects made alike by a recipe. A call on one of them is held against one that never saw the call, down to what only
 * later calls show: each remembered change, the input buffer, the snapshot, and the kitten that waits.
 */
final class Twin {
    interface Call {
        void make(RooftopCats x);
    }

    interface Answer {
        long of(RooftopCats x);
    }

    /** What is in the input buffer of each of them. */
    static final String BUFFER = "roof;chimney 7;repeat 2(chimney 8;);";

    private final String script;
    private final Call[] calls;
    private final String past;
    private final String future;

    /** At most seven calls, so that nothing is forgotten when one more change is undone. */
    Twin(String script, Call... calls) {
        this.script = script;
        this.calls = calls;
        past = past(make());
        future = future(make());
    }

    RooftopCats make() {
        RooftopCats x = new RooftopCats();
        x.saveSnapshot();
        Text.run(x, script);
        Check.that("error of " + script + " at " + x.scriptErrorOffset(), x.scriptErrorKind(), 0);
        for (Call call : calls) {
            call.make(x);
        }
        x.writeRoof();
        mark(x);
        return x;
    }

    /** A script error, and bytes in the buffer, so that a call that changes these is found out, too. */
    private static void mark(RooftopCats x) {
        x.truncateInput(0);
        Text.run(x, "roof;nights 0;");
        Text.put(x, BUFFER);
    }

    /** The call answers so, and changes nothing. */
    void tells(String what, long due, Answer call) {
        RooftopCats x = make();
        Check.that(what, call.of(x), due);
        leftAlone(what, x);
    }

    /** The change answers so, and is undone as a whole. */
    void does(String what, long due, Answer change) {
        RooftopCats x = make();
        int count = x.undoCount();
        Check.that(what, change.of(x), due);
        Check.that("violations behind " + what, x.violations(), 0);
        Check.that("undoCount behind " + what, x.undoCount(), count + 1);
        Check.that("undo of " + what, x.undo(), count);
        leftAlone("undone " + what, x);
    }

    void noPlace(String what, Call call) {
        fails(what, IndexOutOfBoundsException.class, call);
    }

    void badArgument(String what, Call call) {
        fails(what, IllegalArgumentException.class, call);
    }

    void refused(String what, Call call) {
        fails(what, IllegalStateException.class, call);
    }

    /** The call throws just this exception, and changes nothing. */
    void fails(String what, Class<? extends RuntimeException> due, Call call) {
        RooftopCats x = make();
        Check.fails(x, what, due, () -> call.make(x));
        leftAlone(what, x);
        RooftopCats y = make();
        Check.fails(y, what, due, () -> call.make(y));
        Check.that(what + " leaves what will be", future(y), future);
    }

    /** The script has an error: but for that and the input buffer, which is empty then, nothing changes. */
    void scriptFails(String text) {
        RooftopCats x = make();
        x.truncateInput(0);
        Check.that("run of " + text, Text.run(x, text), RooftopCats.NONE);
        Check.badArgument(x, "a byte left of " + text, () -> x.truncateInput(1));
        mark(x);
        leftAlone(text, x);
    }

    private void leftAlone(String what, RooftopCats x) {
        Check.that(what + " leaves what was", past(x), past);
    }

    /** The object is used up by it. */
    private static String past(RooftopCats x) {
        StringBuilder told = new StringBuilder(Look.at(x));
        for (int left = x.undo(); left != RooftopCats.NONE; left = x.undo()) {
            told.append("\nundo ").append(left).append(' ').append(Look.atRoof(x));
        }
        told.append("\nscript ").append(x.runScript()).append(' ').append(Look.at(x));
        return told.append("\nsnapshot ").append(x.restoreSnapshot()).append(' ').append(Look.at(x)).toString();
    }

    /** The object is used up by it. */
    private static String future(RooftopCats x) {
        StringBuilder told = new StringBuilder();
        for (int cat = 0; cat < x.catCount() && x.isKittenWaiting(); cat++) {
            if (!x.hasVoted(cat)) {
                told.append(x.vote(cat, true)).append(' ');
            }
        }
        told.append(Look.at(x));
        if (x.night() < 999) {
            told.append(' ').append(x.passNights(1)).append(' ').append(Look.at(x));
        }
        return told.toString();
    }
}
