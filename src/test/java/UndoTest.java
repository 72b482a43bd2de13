import java.util.ArrayList;
import java.util.List;
import java.util.NoSuchElementException;

/** Promises 16 to 19 (undo and the snapshot). */
public final class UndoTest {
    private static final int NONE = RooftopCats.NONE;

    public static void main(String[] args) {
        everyChange();
        eightChanges();
        notUndone();
        noChanges();
        snapshot();
        snapshotKeeps();
        kittenComesBack();
        Check.end("UndoTest");
    }

    /** Each change is undone as a whole. */
    private static void everyChange() {
        RooftopCats x = new RooftopCats();
        List<Check.Call> changes = new ArrayList<>();
        changes.add(() -> x.addChimney(8));
        changes.add(() -> x.addGutter(5, 0, 9));
        changes.add(() -> x.addCat(5, 1, 1));
        changes.add(() -> x.step(0, 0));
        changes.add(() -> x.claim(0));
        changes.add(() -> x.abandon(0));
        changes.add(() -> x.step(0, 0));
        changes.add(() -> x.chase(0, 3));
        changes.add(() -> x.buyTruce(0, 3, 2, 7));
        changes.add(() -> x.nominate(2, 2));
        changes.add(() -> x.vote(0, true));
        changes.add(() -> x.vote(1, false));
        changes.add(() -> x.vote(2, true));
        changes.add(() -> x.passNights(5));
        changes.add(() -> x.vote(3, true));
        changes.add(() -> Text.run(x, "roof;chimney 1;cat 0 1 1;"));
        for (int i = 0; i < changes.size(); i++) {
            String before = Look.atRoof(x);
            changes.get(i).make();
            String after = Look.atRoof(x);
            Check.that("change " + i + " is seen", before.equals(after), false);
            Check.that("count behind change " + i, x.undoCount(), Math.min(i + 1, 8));
            Check.that("undo of change " + i, x.undo(), Math.min(i, 7));
            Check.that("undone change " + i, Look.atRoof(x), before);
            changes.get(i).make();
            Check.that("change " + i + " made again", Look.atRoof(x), after);
        }
        Check.that("chimneys", x.chimneyCount(), 1);
        Check.that("cats", x.catCount(), 1);
    }

    private static void eightChanges() {
        RooftopCats x = new RooftopCats();
        List<String> seen = new ArrayList<>();
        for (int i = 0; i < 19; i++) {
            seen.add(Look.atRoof(x));
            x.passNights(1);
            Check.that("count", x.undoCount(), Math.min(i + 1, 8));
        }
        for (int left = 7; left >= 0; left--) {
            Check.that("undo", x.undo(), left);
            Check.that("roof", Look.atRoof(x), seen.get(11 + left));
            Check.that("count", x.undoCount(), left);
        }
        Check.that("nothing to undo", x.undo(), NONE);
        Check.that("nothing undone", Look.atRoof(x), seen.get(11));
        Check.that("count", x.undoCount(), 0);
        // What was undone makes room for other changes.
        x.passNights(1);
        x.passNights(1);
        x.undo();
        x.addChimney(7);
        Check.that("count", x.undoCount(), 2);
        Check.that("undo", x.undo(), 1);
        Check.that("roof", Look.atRoof(x), seen.get(12));
        Check.that("undo", x.undo(), 0);
        Check.that("roof", Look.atRoof(x), seen.get(11));
    }

    /** The input buffer, the script error, the report and the snapshot stay. */
    private static void notUndone() {
        RooftopCats x = new RooftopCats();
        x.passNights(1);
        x.writeRoof();
        String report = Look.report(x);
        x.addChimney(7);
        x.append(0, 0, 0, 0, 0);
        x.runScript();
        int offset = x.scriptErrorOffset();
        x.append(0, 0, 0, 0, 0);
        x.saveSnapshot();
        x.undo();
        x.undo();
        Check.that("report", Look.report(x), report);
        Check.that("error kind", x.scriptErrorKind(), 1);
        Check.that("error offset", x.scriptErrorOffset(), offset);
        Check.that("buffer", x.append(0, 0, 0, 0, 0), 40);
        Check.that("snapshot", x.restoreSnapshot(), 4);
        Check.that("chimneys of the snapshot", x.chimneyCount(), 6);
        Check.that("report", Look.report(x), report);
        Check.that("buffer", x.append(0, 0, 0, 0, 0), 60);
    }

    /** Calls that are no changes, and calls that throw, cannot be undone. */
    private static void noChanges() {
        RooftopCats x = new RooftopCats();
        x.append(0, 0, 0, 0, 0);
        x.truncateInput(3);
        x.runScript();
        x.saveSnapshot();
        x.writeRoof();
        Look.at(x);
        x.openGutters(0);
        x.preyOf(0);
        x.fishAfter(0, 30);
        Check.refused(x, "claim", () -> x.claim(0));
        Check.that("count", x.undoCount(), 0);
        Check.that("undo", x.undo(), NONE);
    }

    private static void snapshot() {
        RooftopCats x = new RooftopCats();
        Check.fails(x, "restore without a snapshot", NoSuchElementException.class, x::restoreSnapshot);
        x.passNights(2);
        x.nominate(3, 3);
        x.vote(1, true);
        String saved = Look.atRoof(x);
        Check.that("night", x.saveSnapshot(), 5);
        Check.that("no change", x.undoCount(), 3);
        Check.that("no change", Look.atRoof(x), saved);
        x.passNights(4);
        Text.run(x, "roof;");
        Check.that("restored", x.restoreSnapshot(), 5);
        Check.that("as saved", Look.atRoof(x), saved);
        Check.that("count", x.undoCount(), 0);
        Check.that("undo", x.undo(), NONE);
        x.vote(0, true);
        x.vote(2, true);
        Check.that("admitted", x.catCount(), 4);
        Check.that("it stays saved", x.restoreSnapshot(), 5);
        Check.that("as saved", Look.atRoof(x), saved);
        // In place of an earlier one.
        x.passNights(7);
        Check.that("saved later", x.saveSnapshot(), 12);
        String later = Look.atRoof(x);
        x.undo();
        Check.that("restored", x.restoreSnapshot(), 12);
        Check.that("as saved later", Look.atRoof(x), later);
        Check.that("violations", x.violations(), 0);
    }

    /** The snapshot and the roof do not share anything. */
    private static void snapshotKeeps() {
        RooftopCats x = new RooftopCats();
        x.saveSnapshot();
        String saved = Look.atRoof(x);
        x.addChimney(1);
        x.addGutter(0, 5, 1);
        x.addCat(5, 1, 1);
        x.claim(2);
        x.buyTruce(0, 1, 1, 20);
        x.abandon(0);
        x.nominate(1, 1);
        x.vote(0, true);
        x.passNights(30);
        x.restoreSnapshot();
        Check.that("as saved", Look.atRoof(x), saved);
        x.passNights(1);
        x.restoreSnapshot();
        Check.that("as saved", Look.atRoof(x), saved);
    }

    /** Also the girth and the strength of a kitten, which only its admission shows, are restored. */
    private static void kittenComesBack() {
        RooftopCats x = Text.roof("roof;repeat 4(chimney 1;);cat 0 1 1;kitten 2 3;");
        x.saveSnapshot();
        Check.that("admitted", x.vote(0, true), true);
        x.nominate(7, 8);
        x.undo();
        x.undo();
        x.vote(0, true);
        Check.that("girth", x.girth(1), 2);
        Check.that("strength", x.power(1), 3);
        x.nominate(9, 9);
        x.restoreSnapshot();
        x.vote(0, true);
        Check.that("girth", x.girth(1), 2);
        Check.that("strength", x.power(1), 3);
    }
}
