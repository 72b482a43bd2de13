/** Promises 58 to 62 (means, checks and the report). */
public final class ReportTest {
    private static final int NONE = RooftopCats.NONE;

    public static void main(String[] args) {
        meanFish();
        ownedShare();
        writeRoof();
        reportByte();
        violations();
        Check.end("ReportTest");
    }

    private static void meanFish() {
        RooftopCats x = new RooftopCats();
        Check.that("mean", x.meanFish() == 9.0, true);
        x.passNights(1);
        Check.that("mean", x.meanFish() == 33.0 / 3.0, true);
        x.addCat(1, 1, 1);
        Check.that("mean", x.meanFish() == 38.0 / 4.0, true);
        x.undo();
        x.undo();
        x.step(0, 0);
        x.step(1, 2);
        x.passNights(1);
        Check.that("mean", x.meanFish() == (double) x.totalFish() / 3.0, true);
        Check.that("without cats", Double.doubleToLongBits(Text.roof("roof;chimney 1;").meanFish()), Double.doubleToLongBits(0.0));
        Check.that("without fish", Text.roof("roof;chimney 1;cat 0 1 1;nights 11;").meanFish() == 0.0, true);
        RooftopCats thirds = Text.roof("roof;chimney 1;chimney 1;chimney 3;cat 0 1 1;cat 1 1 1;cat 2 1 1;claim 2;nights 3;");
        Check.that("thirds", thirds.meanFish() == 12.0 / 3.0, true);
        thirds.passNights(1);
        Check.that("thirds", thirds.meanFish() == (double) thirds.totalFish() / (double) 3, true);
        thirds.passNights(1);
        Check.that("a third", thirds.totalFish() % 3 != 0, true);
        Check.that("thirds", thirds.meanFish() == (double) thirds.totalFish() / (double) 3, true);
    }

    private static void ownedShare() {
        RooftopCats x = new RooftopCats();
        Check.that("share", x.ownedShare() == 2.0f / 5.0f, true);
        x.claim(2);
        Check.that("share", x.ownedShare() == 3.0f / 5.0f, true);
        x.addChimney(1);
        x.addChimney(1);
        Check.that("share", x.ownedShare() == 3.0f / 7.0f, true);
        x.step(0, 0);
        Check.that("the owner has left", x.ownedShare() == 3.0f / 7.0f, true);
        Check.that("no owner", Text.roof("roof;chimney 1;cat 0 1 1;").ownedShare() == 0.0f, true);
        Check.that("all", Text.roof("roof;chimney 1;cat 0 1 1;claim 0;").ownedShare() == 1.0f, true);
        Check.that("without chimneys", Float.floatToIntBits(Text.roof("roof;").ownedShare()), Float.floatToIntBits(0.0f));
    }

    private static void report(RooftopCats x, String due) {
        Check.that("length of " + due, x.writeRoof(), due.length());
        Check.that("report", Look.report(x), due);
    }

    private static void writeRoof() {
        RooftopCats x = new RooftopCats();
        report(x, "6c0o0 3 9c1o1 0 4c2");
        x.step(0, 0);
        report(x, "6o0 3c0 9c1o1 0 4c2");
        x.claim(0);
        x.addChimney(7);
        report(x, "6o0 3c0o0 9c1o1 0 4c2 7");
        report(Text.roof("roof;"), "");
        report(Text.roof("roof;chimney 0;"), "0");
        // The longest one: ten chimneys, eight cats, all chimneys owned, two by other cats.
        RooftopCats y = Text.roof("roof;repeat 10(chimney 9;);gutter 0 8 1;gutter 8 9 1;gutter 9 7 1;"
                + "cat 0 1 1;claim 0;step 0 0;claim 0;step 0 1;claim 0;step 0 2;claim 0;cat 0 1 1;cat 1 1 1;claim 2;cat 2 1 1;claim 3;"
                + "cat 3 1 1;claim 4;cat 4 1 1;claim 5;cat 5 1 1;claim 6;cat 6 1 1;claim 7;");
        report(y, "9c1o0 9c2o2 9c3o3 9c4o4 9c5o5 9c6o6 9c7o7 9c0o0 9o0 9o0");
        // A shorter report leaves nothing of the longer one.
        Text.run(y, "roof;chimney 5;");
        Check.that("the report stays until the next one", y.reportByte(54), '0');
        report(y, "5");
        Check.that("bytes behind it", y.reportByte(1), NONE);
    }

    private static void reportByte() {
        RooftopCats x = new RooftopCats();
        Check.that("nothing was written", x.reportByte(0), NONE);
        x.writeRoof();
        Check.that("first", x.reportByte(0), '6');
        Check.that("last", x.reportByte(18), '2');
        Check.that("space", x.reportByte(5), ' ');
        for (int index : Check.outside(19)) {
            Check.that("byte " + index, x.reportByte(index), NONE);
        }
        x.passNights(1);
        x.undo();
        x.abandon(0);
        Check.that("changes leave the report", Look.report(x), "6c0o0 3 9c1o1 0 4c2");
    }

    private static void violations() {
        RooftopCats x = new RooftopCats();
        Check.that("violations", x.violations(), 0);
        x.addCat(1, 1, 1);
        x.buyTruce(1, 3, 5, 5);
        x.passNights(30);
        x.saveSnapshot();
        Check.that("violations", x.violations(), 0);
        x.undo();
        Check.that("violations", x.violations(), 0);
        x.restoreSnapshot();
        Check.that("violations", x.violations(), 0);
        Check.that("violations without cats", Text.roof("roof;").violations(), 0);
    }
}
