/**
 * Promises 1 and 22 to 62 (what an object tells) at their edges: the numbers that exist and those just outside, empty
 * and full roofs, the least and the greatest answers; and no such call changes anything.
 */
public final class TellEdgeTest {
    private static final int NONE = RooftopCats.NONE;
    private static final int ALLOWED = RooftopCats.ALLOWED;
    private static final String EIGHT = "cat 0 1 1;cat 1 1 1;cat 2 1 1;cat 3 1 1;cat 4 1 1;cat 5 1 1;cat 6 1 1;cat 7 1 1;";
    private static final String FULL = "roof;repeat 10(chimney 9;);repeat 20(gutter 9 8 9;);" + EIGHT;

    private static final Twin EMPTY_TWIN = new Twin("roof;");
    private static final Twin FIRST_TWIN = new Twin(Text.FIRST);
    private static final Twin FULL_TWIN = new Twin(FULL);

    public static void main(String[] args) {
        newObject();
        newObjectIsUnmarked();
        counts();
        nights();
        chimneyNumbers();
        gutterNumbers();
        catNumbers();
        pairsOfCats();
        mixedNumbers();
        valuesAtTheEnds();
        widestWay();
        warmestFree();
        ownedChimneys();
        truceNights();
        reachableAndStepsTo();
        openGuttersAndPrey();
        kittens();
        choirs();
        fishAfter();
        richestAndTotal();
        meanFish();
        ownedShare();
        violations();
        writeRoof();
        reportByte();
        lastOf512Calls();
        Check.end("TellEdgeTest");
    }

    // ---- promise 1

    private static void newObject() {
        Check.that("roof", Look.atRoof(new RooftopCats()), Look.atRoof(Text.roof(Text.FIRST)));
        // What cannot be seen at once comes out later: the balance of the fish, and the truce in each of its nights.
        RooftopCats x = new RooftopCats();
        RooftopCats y = Text.roof(Text.FIRST);
        for (int i = 0; i < 10; i++) {
            x.passNights(1);
            y.passNights(1);
            Check.that("roof later", Look.atRoof(x), Look.atRoof(y));
            Check.that("violations", x.violations(), 0);
        }
    }

    /** "The input buffer and the report are empty, no snapshot is saved, and nothing can be undone." */
    private static void newObjectIsUnmarked() {
        RooftopCats x = new RooftopCats();
        Check.badArgument(x, "truncateInput(1)", () -> x.truncateInput(1));
        Check.that("truncateInput(0)", x.truncateInput(0), 0);
        Check.that("reportByte(0)", x.reportByte(0), NONE);
        Check.that("reportByte(-1)", x.reportByte(-1), NONE);
        Check.fails(x, "restoreSnapshot()", java.util.NoSuchElementException.class, x::restoreSnapshot);
        Check.that("undoCount()", x.undoCount(), 0);
        Check.that("undo()", x.undo(), NONE);
        Check.that("scriptErrorKind()", x.scriptErrorKind(), 0);
        Check.that("scriptErrorOffset()", x.scriptErrorOffset(), NONE);
    }

    // ---- promises 22 to 26

    private static void counts() {
        EMPTY_TWIN.tells("chimneys of an empty roof", 0, x -> x.chimneyCount());
        EMPTY_TWIN.tells("gutters of an empty roof", 0, x -> x.gutterCount());
        EMPTY_TWIN.tells("cats of an empty roof", 0, x -> x.catCount());
        FULL_TWIN.tells("chimneys of a full roof", 10, x -> x.chimneyCount());
        FULL_TWIN.tells("gutters of a full roof", 20, x -> x.gutterCount());
        FULL_TWIN.tells("cats of a full roof", 8, x -> x.catCount());
        // A refused one more is not counted.
        RooftopCats x = FULL_TWIN.make();
        Check.refused(x, "11th chimney", () -> x.addChimney(1));
        Check.refused(x, "21st gutter", () -> x.addGutter(0, 1, 1));
        Check.refused(x, "9th cat", () -> x.addCat(9, 1, 1));
        Check.that("chimneys", x.chimneyCount(), 10);
        Check.that("gutters", x.gutterCount(), 20);
        Check.that("cats", x.catCount(), 8);
    }

    /** The moon from night 0 to night 999, and the nights to the full moon, "1 to 8". */
    private static void nights() {
        RooftopCats x = Text.roof("roof;");
        int[] waits = {4, 3, 2, 1, 8, 7, 6, 5};
        for (int night = 0; night <= 999; night++) {
            Check.that("night", x.night(), night);
            Check.that("moonPhase in night " + night, x.moonPhase(), night % 8);
            Check.that("nightsToFullMoon in night " + night, x.nightsToFullMoon(), waits[night % 8]);
            if (night < 999) {
                x.passNights(1);
            }
        }
        Check.refused(x, "night 1000", () -> x.passNights(1));
        Check.that("night", x.night(), 999);
    }

    // ---- numbers that do not exist

    private static void chimneyNumbers() {
        String[] roofs = {"roof;", "roof;chimney 1;", Text.FIRST, FULL};
        int[] counts = {0, 1, 5, 10};
        for (int i = 0; i < roofs.length; i++) {
            Twin twin = new Twin(roofs[i]);
            for (int wrong : Check.outside(counts[i])) {
                twin.noPlace("warmth of " + wrong, x -> x.warmth(wrong));
                twin.noPlace("ownerOf " + wrong, x -> x.ownerOf(wrong));
                twin.noPlace("catOn " + wrong, x -> x.catOn(wrong));
                twin.noPlace("widestWay of both " + wrong, x -> x.widestWay(wrong, wrong));
                if (counts[i] > 0) {
                    int last = counts[i] - 1;
                    twin.noPlace("widestWay from " + wrong, x -> x.widestWay(wrong, last));
                    twin.noPlace("widestWay to " + wrong, x -> x.widestWay(last, wrong));
                }
            }
        }
        FULL_TWIN.tells("warmth of the last", 9, x -> x.warmth(9));
        FULL_TWIN.tells("owner of the last", NONE, x -> x.ownerOf(9));
        FULL_TWIN.tells("cat on the last", NONE, x -> x.catOn(9));
        FULL_TWIN.tells("cat on the first", 0, x -> x.catOn(0));
        FULL_TWIN.tells("last cat", 7, x -> x.catOn(7));
    }

    private static void gutterNumbers() {
        String[] roofs = {"roof;", "roof;chimney 1;chimney 1;gutter 0 1 1;", Text.FIRST, FULL};
        int[] counts = {0, 1, 5, 20};
        for (int i = 0; i < roofs.length; i++) {
            Twin twin = new Twin(roofs[i]);
            for (int wrong : Check.outside(counts[i])) {
                twin.noPlace("gutterEnds of " + wrong, x -> x.gutterEnds(wrong));
                twin.noPlace("width of " + wrong, x -> x.width(wrong));
            }
        }
        FULL_TWIN.tells("ends of the first", 1 << 8 | 1 << 9, x -> x.gutterEnds(0));
        FULL_TWIN.tells("ends of the last", 1 << 8 | 1 << 9, x -> x.gutterEnds(19));
        FULL_TWIN.tells("width of the last", 9, x -> x.width(19));
    }

    private static void catNumbers() {
        String[] roofs = {"roof;chimney 1;chimney 1;gutter 0 1 1;", "roof;chimney 1;chimney 1;gutter 0 1 1;cat 1 1 1;", Text.FIRST, FULL};
        int[] counts = {0, 1, 3, 8};
        for (int i = 0; i < roofs.length; i++) {
            Twin twin = new Twin(roofs[i]);
            for (int wrong : Check.outside(counts[i])) {
                twin.noPlace("girth of " + wrong, x -> x.girth(wrong));
                twin.noPlace("power of " + wrong, x -> x.power(wrong));
                twin.noPlace("fish of " + wrong, x -> x.fish(wrong));
                twin.noPlace("chimneyOf " + wrong, x -> x.chimneyOf(wrong));
                twin.noPlace("ownedChimneys of " + wrong, x -> x.ownedChimneys(wrong));
                twin.noPlace("reachable of " + wrong, x -> x.reachable(wrong));
                twin.noPlace("stepsTo of " + wrong, x -> x.stepsTo(wrong, 0));
                twin.noPlace("openGutters of " + wrong, x -> x.openGutters(wrong));
                twin.noPlace("whyNoStep of " + wrong, x -> x.whyNoStep(wrong, 0));
                twin.noPlace("whyNoClaim of " + wrong, x -> x.whyNoClaim(wrong));
                twin.noPlace("preyOf " + wrong, x -> x.preyOf(wrong));
                twin.noPlace("hasVoted of " + wrong, x -> x.hasVoted(wrong));
                twin.noPlace("choirOf " + wrong, x -> x.choirOf(wrong));
                twin.noPlace("fishAfter of " + wrong, x -> x.fishAfter(wrong, 0));
            }
        }
        // Also while a kitten waits.
        Twin waits = new Twin(Text.FIRST, x -> x.nominate(1, 1));
        for (int wrong : Check.outside(3)) {
            waits.noPlace("hasVoted of " + wrong, x -> x.hasVoted(wrong));
        }
    }

    /** "if cat or other is not the number of a cat" before "if both are the same cat". */
    private static void pairsOfCats() {
        EMPTY_TWIN.noPlace("truceNights without cats", x -> x.truceNights(0, 0));
        EMPTY_TWIN.noPlace("whyNoChase without cats", x -> x.whyNoChase(0, 0));
        int[] counts = {3, 8};
        Twin[] twins = {FIRST_TWIN, FULL_TWIN};
        for (int i = 0; i < twins.length; i++) {
            Twin twin = twins[i];
            int last = counts[i] - 1;
            for (int wrong : Check.outside(counts[i])) {
                twin.noPlace("truceNights of " + wrong, x -> x.truceNights(wrong, last));
                twin.noPlace("truceNights with " + wrong, x -> x.truceNights(last, wrong));
                twin.noPlace("truceNights of both " + wrong, x -> x.truceNights(wrong, wrong));
                twin.noPlace("whyNoChase of " + wrong, x -> x.whyNoChase(wrong, last));
                twin.noPlace("whyNoChase at " + wrong, x -> x.whyNoChase(last, wrong));
                twin.noPlace("whyNoChase of both " + wrong, x -> x.whyNoChase(wrong, wrong));
            }
            for (int each = 0; each <= last; each++) {
                int cat = each;
                twin.badArgument("truceNights of both " + cat, x -> x.truceNights(cat, cat));
                twin.badArgument("whyNoChase of both " + cat, x -> x.whyNoChase(cat, cat));
            }
        }
    }

    /** "if cat or gutter does not exist", "if cat or chimney does not exist". */
    private static void mixedNumbers() {
        for (int wrong : Check.outside(5)) {
            FIRST_TWIN.noPlace("whyNoStep through " + wrong, x -> x.whyNoStep(2, wrong));
            FIRST_TWIN.noPlace("stepsTo chimney " + wrong, x -> x.stepsTo(2, wrong));
        }
        for (int wrong : Check.outside(20)) {
            FULL_TWIN.noPlace("whyNoStep through " + wrong, x -> x.whyNoStep(7, wrong));
        }
        for (int wrong : Check.outside(10)) {
            FULL_TWIN.noPlace("stepsTo chimney " + wrong, x -> x.stepsTo(7, wrong));
        }
        Twin lonely = new Twin("roof;chimney 1;cat 0 1 1;");
        lonely.noPlace("whyNoStep without gutters", x -> x.whyNoStep(0, 0));
        lonely.tells("whyNoClaim", ALLOWED, x -> x.whyNoClaim(0));
        FULL_TWIN.tells("whyNoStep through the last", 1, x -> x.whyNoStep(7, 19));
        FULL_TWIN.tells("stepsTo the last", NONE, x -> x.stepsTo(7, 9));
    }

    /** The least and the greatest of what a chimney, a gutter and a cat can have. */
    private static void valuesAtTheEnds() {
        Twin twin = new Twin("roof;chimney 0;chimney 9;gutter 0 1 1;gutter 1 0 9;cat 0 1 9;cat 1 9 1;claim 0;");
        twin.tells("least warmth", 0, x -> x.warmth(0));
        twin.tells("greatest warmth", 9, x -> x.warmth(1));
        twin.tells("least width", 1, x -> x.width(0));
        twin.tells("greatest width", 9, x -> x.width(1));
        twin.tells("least girth", 1, x -> x.girth(0));
        twin.tells("greatest girth", 9, x -> x.girth(1));
        twin.tells("least power", 1, x -> x.power(1));
        twin.tells("greatest power", 11, x -> x.power(0));
        twin.tells("owner", 0, x -> x.ownerOf(0));
        twin.tells("no owner", NONE, x -> x.ownerOf(1));
        RooftopCats x = Text.roof("roof;chimney 9;chimney 9;gutter 0 1 1;cat 0 1 1;claim 0;nights 30;nights 30;");
        Check.that("most fish", x.fish(0), 99);
        x.step(0, 0);
        Check.that("no cat on the chimney that it left", x.catOn(0), NONE);
        Check.that("least fish", Text.roof("roof;chimney 1;chimney 1;cat 0 1 1;cat 1 1 1;nights 6;").fish(1), 0);
    }

    // ---- promises 32, 33 and 38 to 46

    /** "NONE if there is no way, or 9 if both are the same chimney". */
    private static void widestWay() {
        Twin none = new Twin("roof;chimney 1;chimney 1;");
        none.tells("no gutter", NONE, x -> x.widestWay(0, 1));
        none.tells("the same without a gutter", 9, x -> x.widestWay(1, 1));
        for (int each = 1; each <= 9; each++) {
            int width = each;
            Twin one = new Twin("roof;chimney 1;chimney 1;chimney 1;gutter 0 1 " + width + ";");
            one.tells("one gutter", width, x -> x.widestWay(0, 1));
            one.tells("one gutter back", width, x -> x.widestWay(1, 0));
            one.tells("the same", 9, x -> x.widestWay(0, 0));
            one.tells("no way", NONE, x -> x.widestWay(0, 2));
            for (int next = 1; next <= 9; next++) {
                RooftopCats two = Text.roof("roof;chimney 1;chimney 1;chimney 1;gutter 0 1 " + width + ";gutter 2 1 " + next + ";gutter 0 1 1;");
                Check.that("the narrower of two in a row", two.widestWay(0, 2), Math.min(width, next));
                RooftopCats side = Text.roof("roof;chimney 1;chimney 1;gutter 0 1 " + width + ";gutter 1 0 " + next + ";");
                Check.that("the wider of two side by side", side.widestWay(0, 1), Math.max(width, next));
            }
        }
        // Nine gutters in a row are the longest way, and one gutter less.
        Twin row = new Twin("roof;repeat 10(chimney 1;);gutter 0 1 9;gutter 1 2 8;gutter 2 3 7;gutter 3 4 6;gutter 4 5 5;gutter 5 6 4;gutter 6 7 3;"
                + "gutter 7 8 2;gutter 8 9 1;");
        row.tells("nine gutters", 1, x -> x.widestWay(0, 9));
        row.tells("nine gutters back", 1, x -> x.widestWay(9, 0));
        row.tells("eight gutters", 2, x -> x.widestWay(0, 8));
        row.tells("eight gutters back", 1, x -> x.widestWay(9, 1));
        // "if there were no other cats and no owners"
        new Twin("roof;repeat 3(chimney 1;);gutter 0 1 6;gutter 1 2 7;cat 0 1 1;claim 0;step 0 0;").tells("a cat and an owner in the way", 6, x -> x.widestWay(0, 2));
    }

    /** "of several the one with the smallest number; NONE if there is none". */
    private static void warmestFree() {
        EMPTY_TWIN.tells("no chimney", NONE, x -> x.warmestFree());
        new Twin("roof;chimney 9;cat 0 1 1;").tells("no free one", NONE, x -> x.warmestFree());
        new Twin("roof;chimney 0;").tells("one as cold as can be", 0, x -> x.warmestFree());
        new Twin("roof;chimney 9;chimney 0;cat 0 1 1;").tells("the cold one is free", 1, x -> x.warmestFree());
        new Twin("roof;repeat 10(chimney 9;);").tells("of ten, the first", 0, x -> x.warmestFree());
        new Twin("roof;repeat 10(chimney 9;);" + EIGHT).tells("of two", 8, x -> x.warmestFree());
        new Twin("roof;chimney 4;chimney 5;chimney 5;chimney 4;").tells("of two warmest", 1, x -> x.warmestFree());
        new Twin("roof;chimney 4;chimney 5;chimney 6;").tells("one warmer at the end", 2, x -> x.warmestFree());
        new Twin("roof;chimney 4;chimney 5;chimney 6;cat 2 1 1;").tells("but not free", 1, x -> x.warmestFree());
    }

    /** "Returns the set of these chimneys": none, the first, the last, four. */
    private static void ownedChimneys() {
        String roof = "roof;repeat 10(chimney 1;);gutter 0 9 1;gutter 9 5 1;gutter 5 6 1;cat 0 1 1;";
        new Twin(roof).tells("none", 0, x -> x.ownedChimneys(0));
        new Twin(roof + "claim 0;").tells("the first", 1, x -> x.ownedChimneys(0));
        new Twin(roof + "claim 0;step 0 0;claim 0;abandon 0;").tells("the last", 1 << 9, x -> x.ownedChimneys(0));
        new Twin(roof + "claim 0;step 0 0;claim 0;step 0 1;claim 0;step 0 2;claim 0;")
                .tells("four", 1 | 1 << 5 | 1 << 6 | 1 << 9, x -> x.ownedChimneys(0));
    }

    /** "0 if there is no truce between both": in each night of the shortest and the longest truce, and behind them. */
    private static void truceNights() {
        FULL_TWIN.tells("never a truce", 0, x -> x.truceNights(0, 7));
        for (int nights = 1; nights <= 20; nights++) {
            RooftopCats x = Text.roof(FULL);
            x.buyTruce(7, 6, 1, nights);
            for (int left = nights; left >= -2; left--) {
                Check.that("truceNights", x.truceNights(7, 6), Math.max(0, left));
                Check.that("truceNights of the other one", x.truceNights(6, 7), Math.max(0, left));
                Check.that("no truce with a third cat", x.truceNights(7, 0), 0);
                x.passNights(1);
            }
        }
    }

    /** "with the present one", "0 if it is there, or NONE if it cannot". */
    private static void reachableAndStepsTo() {
        Twin lonely = new Twin("roof;chimney 1;chimney 1;cat 1 1 1;");
        lonely.tells("the present one alone", 2, x -> x.reachable(0));
        lonely.tells("is there", 0, x -> x.stepsTo(0, 1));
        lonely.tells("cannot", NONE, x -> x.stepsTo(0, 0));
        // Nine steps are the most that ten chimneys can take; a tenth gutter shortens the way only if it is wide enough.
        String row = "roof;repeat 10(chimney 1;);gutter 0 1 5;gutter 1 2 5;gutter 2 3 5;gutter 3 4 5;gutter 4 5 5;gutter 5 6 5;gutter 6 7 5;"
                + "gutter 7 8 5;gutter 8 9 5;cat 0 5 1;";
        Twin nine = new Twin(row);
        for (int each = 0; each < 10; each++) {
            int chimney = each;
            nine.tells("stepsTo " + chimney, chimney, x -> x.stepsTo(0, chimney));
        }
        nine.tells("all", 1023, x -> x.reachable(0));
        new Twin(row + "gutter 9 0 4;").tells("too narrow a short cut", 9, x -> x.stepsTo(0, 9));
        new Twin(row + "gutter 9 0 5;").tells("a short cut", 1, x -> x.stepsTo(0, 9));
        new Twin(row + "gutter 9 0 5;").tells("from the other side", 4, x -> x.stepsTo(0, 6));
        new Twin(row + "cat 9 1 1;").tells("a cat at the end", 511, x -> x.reachable(0));
        new Twin(row + "cat 9 1 1;").tells("a cat at the end", NONE, x -> x.stepsTo(0, 9));
        new Twin(row + "cat 1 1 1;").tells("a cat at the start", 1, x -> x.reachable(0));
        // The same down to chimney 0.
        String down = row.replace("cat 0 5 1;", "cat 9 5 1;");
        for (int each = 0; each < 10; each++) {
            int chimney = each;
            new Twin(down).tells("stepsTo " + chimney, 9 - chimney, x -> x.stepsTo(0, chimney));
        }
        new Twin(down).tells("all", 1023, x -> x.reachable(0));
        new Twin(down + "cat 0 1 1;").tells("a cat at the end", 1022, x -> x.reachable(0));
        new Twin(down + "cat 0 1 1;").tells("a cat at the end", NONE, x -> x.stepsTo(0, 0));
        new Twin(down + "cat 0 1 1;claim 1;step 1 0;").tells("an owner at the end, and its cat before", 1020, x -> x.reachable(0));
    }

    /** Sets that hold nothing, the first, the last, or all. */
    private static void openGuttersAndPrey() {
        Twin lonely = new Twin("roof;chimney 1;cat 0 1 1;");
        lonely.tells("no gutters", 0, x -> x.openGutters(0));
        lonely.tells("no other cats", 0, x -> x.preyOf(0));
        String roof = "roof;repeat 8(chimney 1;);cat 0 1 9;";
        new Twin(roof + "repeat 20(gutter 1 0 1;);").tells("all gutters", (1 << 20) - 1, x -> x.openGutters(0));
        new Twin(roof + "repeat 19(gutter 1 2 1;);gutter 1 0 1;").tells("the last gutter", 1 << 19, x -> x.openGutters(0));
        new Twin(roof + "gutter 1 0 1;repeat 19(gutter 1 2 1;);").tells("the first gutter", 1, x -> x.openGutters(0));
        String star = "gutter 0 1 1;gutter 0 2 1;gutter 0 3 1;gutter 0 4 1;gutter 0 5 1;gutter 0 6 1;gutter 0 7 1;";
        String others = "cat 1 1 8;cat 2 1 8;cat 3 1 8;cat 4 1 8;cat 5 1 8;cat 6 1 8;cat 7 1 8;";
        Twin all = new Twin(roof + star + others);
        all.tells("all other cats", 254, x -> x.preyOf(0));
        all.tells("nobody", 0, x -> x.preyOf(7));
        FULL_TWIN.tells("twenty gutters, but none between them", 7, x -> x.whyNoChase(0, 7));
        FULL_TWIN.tells("nobody", 0, x -> x.preyOf(0));
        FULL_TWIN.tells("no gutter here", 0, x -> x.openGutters(0));
        new Twin("roof;repeat 8(chimney 1;);" + star + others + "cat 0 1 9;").tells("all other cats", 127, x -> x.preyOf(7));
    }

    // ---- promises 47 to 53

    /** "0 if none is waiting", "false if none is waiting". */
    private static void kittens() {
        Twin none = new Twin("roof;repeat 9(chimney 1;);" + EIGHT);
        none.tells("no kitten", 0, x -> x.isKittenWaiting() ? 1 : 0);
        none.tells("none for", 0, x -> x.votesFor());
        none.tells("none against", 0, x -> x.votesAgainst());
        none.tells("not voted", 0, x -> x.hasVoted(7) ? 1 : 0);
        String seven = "roof;repeat 9(chimney 1;);cat 0 1 1;cat 1 1 1;cat 2 1 1;cat 3 1 1;cat 4 1 1;cat 5 1 1;cat 6 1 1;kitten 1 1;cat 8 1 1;";
        StringBuilder yes = new StringBuilder(seven);
        StringBuilder no = new StringBuilder(seven);
        for (int voted = 0; voted < 8; voted++) {
            RooftopCats x = Text.roof(yes.toString());
            RooftopCats y = Text.roof(no.toString());
            Check.that("waits", x.isKittenWaiting() && y.isKittenWaiting(), true);
            Check.that("all for", x.votesFor(), voted);
            Check.that("none against", x.votesAgainst(), 0);
            Check.that("none for", y.votesFor(), 0);
            Check.that("all against", y.votesAgainst(), voted);
            for (int cat = 0; cat < 8; cat++) {
                Check.that("hasVoted " + cat, x.hasVoted(cat), cat >= 8 - voted);
                Check.that("hasVoted " + cat, y.hasVoted(cat), cat >= 8 - voted);
            }
            yes.append("yes ").append(7 - voted).append(';');
            no.append("no ").append(7 - voted).append(';');
        }
        for (String all : new String[] {yes.toString(), no.toString()}) {
            RooftopCats x = Text.roof(all);
            Check.that("waits no more", x.isKittenWaiting(), false);
            Check.that("none for", x.votesFor(), 0);
            Check.that("none against", x.votesAgainst(), 0);
            Check.that("not voted", x.hasVoted(0) || x.hasVoted(7), false);
        }
    }

    /** No cat, one cat, eight cats apart and eight cats together. */
    private static void choirs() {
        EMPTY_TWIN.tells("choirs without cats", 0, x -> x.choirCount());
        EMPTY_TWIN.tells("largest without cats", 0, x -> x.largestChoir());
        Twin one = new Twin("roof;chimney 1;cat 0 1 1;");
        one.tells("one choir", 1, x -> x.choirCount());
        one.tells("of one cat", 1, x -> x.choirOf(0));
        one.tells("the largest", 1, x -> x.largestChoir());
        FULL_TWIN.tells("eight choirs", 8, x -> x.choirCount());
        FULL_TWIN.tells("of one cat", 128, x -> x.choirOf(7));
        FULL_TWIN.tells("the largest", 1, x -> x.largestChoir());
        StringBuilder row = new StringBuilder("roof;repeat 8(chimney 1;);" + EIGHT);
        for (int joined = 1; joined <= 8; joined++) {
            int last = joined;
            Twin twin = new Twin(row.toString());
            twin.tells("choirs", 9 - last, x -> x.choirCount());
            twin.tells("of the joined ones", (1 << last) - 1, x -> x.choirOf(last - 1));
            twin.tells("the largest", (1 << last) - 1, x -> x.largestChoir());
            row.append("gutter ").append(joined % 8).append(' ').append(joined - 1).append(" 1;");
        }
    }

    // ---- promises 55 to 60

    /** "nights: 0 to 30", and the cat before the nights. */
    private static void fishAfter() {
        for (int wrong : Check.outside(0, 30)) {
            FIRST_TWIN.badArgument("fishAfter nights " + wrong, x -> x.fishAfter(2, wrong));
            FIRST_TWIN.noPlace("fishAfter of no cat, nights " + wrong, x -> x.fishAfter(3, wrong));
            FIRST_TWIN.noPlace("fishAfter of cat -1, nights " + wrong, x -> x.fishAfter(-1, wrong));
            EMPTY_TWIN.noPlace("fishAfter without cats, nights " + wrong, x -> x.fishAfter(0, wrong));
        }
        FIRST_TWIN.tells("now", 11, x -> x.fishAfter(0, 0));
        FIRST_TWIN.tells("in a night, with its feast", 14, x -> x.fishAfter(0, 1));
        FIRST_TWIN.tells("in a night, no feast", 19, x -> x.fishAfter(1, 1));
        FIRST_TWIN.tells("in thirty nights, with 4 feasts", 11 + 60 + 4, x -> x.fishAfter(0, 30));
        FIRST_TWIN.tells("no more than 99", 99, x -> x.fishAfter(1, 30));
        FIRST_TWIN.tells("no less than 0", 0, x -> x.fishAfter(2, 30));
        // It goes on behind the last night, as only nights pass.
        RooftopCats x = Text.roof("roof;chimney 1;cat 0 1 1;repeat 20(nights 30;);repeat 13(nights 30;);nights 9;");
        Check.that("in the last night", x.fishAfter(0, 0), 0);
        Check.that("before the full moon", x.fishAfter(0, 4), 0);
        Check.that("at the full moon", x.fishAfter(0, 5), 1);
        Check.that("behind it", x.fishAfter(0, 6), 0);
    }

    /** "of several the one with the smallest number; NONE without cats". */
    private static void richestAndTotal() {
        EMPTY_TWIN.tells("richest without cats", NONE, x -> x.richestCat());
        EMPTY_TWIN.tells("total without cats", 0, x -> x.totalFish());
        FULL_TWIN.tells("of eight, the first", 0, x -> x.richestCat());
        FULL_TWIN.tells("total of eight", 40, x -> x.totalFish());
        new Twin(FULL + "truce 0 7 1 1;").tells("one more", 7, x -> x.richestCat());
        new Twin(FULL + "truce 0 7 1 1;truce 1 6 1 1;").tells("of two, the first", 6, x -> x.richestCat());
        new Twin("roof;chimney 1;chimney 1;chimney 1;cat 0 1 1;cat 1 1 1;cat 2 1 1;nights 9;").tells("cat 0 sang", 0, x -> x.richestCat());
        new Twin("roof;chimney 1;chimney 1;cat 0 1 1;cat 1 1 1;nights 10;").tells("without fish, the first", 0, x -> x.richestCat());
        new Twin("roof;chimney 1;chimney 1;cat 0 1 1;cat 1 1 1;nights 10;").tells("no fish", 0, x -> x.totalFish());
        Twin rich = new Twin(FULL + "claim 0;claim 1;claim 2;claim 3;claim 4;claim 5;claim 6;claim 7;repeat 2(nights 30;);");
        rich.tells("the most fish", 8 * 99, x -> x.totalFish());
        rich.tells("of eight, the first", 0, x -> x.richestCat());
        rich.tells("violations", 0, x -> x.violations());
        RooftopCats x = rich.make();
        Check.that("mean", x.meanFish() == 99.0, true);
    }

    private static void mean(String what, String script, double due) {
        RooftopCats x = Text.roof(script);
        Check.that(what, Double.doubleToRawLongBits(x.meanFish()), Double.doubleToRawLongBits(due));
    }

    /** "both converted to double; 0.0 without cats". */
    private static void meanFish() {
        mean("mean without chimneys", "roof;", 0.0);
        mean("mean without cats", "roof;chimney 1;", 0.0);
        mean("mean without fish", "roof;chimney 1;cat 0 1 1;nights 9;", 0.0);
        mean("mean of one", "roof;chimney 1;cat 0 1 1;", 5.0);
        mean("mean of two", "roof;chimney 3;chimney 1;cat 0 1 1;cat 1 1 1;claim 0;nights 5;", 11.0 / 2.0);
        mean("mean of three", "roof;chimney 6;chimney 1;chimney 1;cat 0 1 1;cat 1 1 1;cat 2 1 1;claim 0;nights 1;", (7 + 4 + 4) / 3.0);
        mean("two thirds more", "roof;chimney 6;chimney 1;chimney 1;cat 0 1 1;cat 1 1 1;cat 2 1 1;claim 0;nights 7;", 20.0 / 3.0);
        mean("mean of eight", FULL, 5.0);
    }

    private static void share(String what, String script, float due) {
        RooftopCats x = Text.roof(script);
        Check.that(what, Float.floatToRawIntBits(x.ownedShare()), Float.floatToRawIntBits(due));
    }

    /** "both converted to float; 0.0f without chimneys". */
    private static void ownedShare() {
        share("share without chimneys", "roof;", 0.0f);
        share("none owned", "roof;chimney 1;cat 0 1 1;", 0.0f);
        share("the only one owned", "roof;chimney 1;cat 0 1 1;claim 0;", 1.0f);
        share("one of three", "roof;chimney 1;chimney 1;chimney 1;cat 0 1 1;claim 0;", 1.0f / 3.0f);
        share("one of ten", "roof;repeat 10(chimney 1;);cat 9 1 1;claim 0;", 0.1f);
        share("one of ten, abandoned", "roof;repeat 10(chimney 1;);cat 9 1 1;claim 0;abandon 9;", 0.0f);
        share("eight of ten", FULL + "claim 0;claim 1;claim 2;claim 3;claim 4;claim 5;claim 6;claim 7;", 8.0f / 10.0f);
        share("two of seven", "roof;repeat 7(chimney 1;);cat 0 1 1;cat 6 1 1;claim 0;claim 1;", 2.0f / 7.0f);
    }

    /** "it is always 0": behind feasts and hunger, at 99 and at 0 fish, and where these are undone or restored. */
    private static void violations() {
        EMPTY_TWIN.tells("without cats", 0, x -> x.violations());
        FULL_TWIN.tells("full", 0, x -> x.violations());
        RooftopCats x = Text.roof("roof;chimney 9;chimney 0;chimney 3;gutter 0 1 9;gutter 1 2 9;cat 0 1 9;cat 1 1 1;claim 0;");
        x.saveSnapshot();
        for (int i = 0; i < 60; i++) {
            x.passNights(1 + i % 3);
            Check.that("violations", x.violations(), 0);
            if (i % 4 == 0) {
                x.chase(0, 1);
                Check.that("violations behind a chase", x.violations(), 0);
                x.chase(0, 1);
                Check.that("violations behind a chase", x.violations(), 0);
            }
            if (i % 7 == 0) {
                x.undo();
                Check.that("violations behind undo", x.violations(), 0);
            }
        }
        x.restoreSnapshot();
        Check.that("violations of the snapshot", x.violations(), 0);
        Text.run(x, "roof;chimney 9;cat 0 1 1;");
        Check.that("violations of a script", x.violations(), 0);
        x.undo();
        Check.that("violations behind undo of a script", x.violations(), 0);
    }

    // ---- promises 61 and 62

    private static void report(String script, String due) {
        RooftopCats x = Text.roof(script);
        Check.that("writeRoof of " + due, x.writeRoof(), due.length());
        Check.that("report", Look.report(x), due);
        Check.that("byte behind it", x.reportByte(due.length()), NONE);
        Check.that("byte in front of it", x.reportByte(-1), NONE);
        Check.that("farthest byte", x.reportByte(Integer.MAX_VALUE), NONE);
        Check.that("lowest byte", x.reportByte(Integer.MIN_VALUE), NONE);
        if (!due.isEmpty()) {
            Check.that("first byte", x.reportByte(0), due.charAt(0));
            Check.that("last byte", x.reportByte(due.length() - 1), due.charAt(due.length() - 1));
        }
    }

    /** No chimney, one, two, ten; no cat, a cat, an owner, both; the longest report. */
    private static void writeRoof() {
        report("roof;", "");
        report("roof;chimney 0;", "0");
        report("roof;chimney 9;", "9");
        report("roof;chimney 5;cat 0 1 1;", "5c0");
        report("roof;chimney 5;cat 0 1 1;claim 0;", "5c0o0");
        report("roof;chimney 5;chimney 6;gutter 0 1 1;cat 0 1 1;claim 0;step 0 0;", "5o0 6c0");
        report("roof;repeat 10(chimney 1;);", "1 1 1 1 1 1 1 1 1 1");
        report(FULL + "claim 7;", "9c0 9c1 9c2 9c3 9c4 9c5 9c6 9c7o7 9 9");
        report("roof;repeat 10(chimney 9;);gutter 9 8 1;gutter 8 7 1;" + EIGHT.replace("cat 7", "cat 9") + "claim 7;step 7 0;claim 7;step 7 1;"
                + "claim 7;claim 0;claim 1;claim 2;claim 3;claim 4;claim 5;claim 6;",
                "9c0o0 9c1o1 9c2o2 9c3o3 9c4o4 9c5o5 9c6o6 9c7o7 9o7 9o7");
    }

    /** "NONE if the report has no such byte or nothing was written", "in place of the previous report". */
    private static void reportByte() {
        RooftopCats x = new RooftopCats();
        for (int index : new int[] {0, 1, -1, Integer.MIN_VALUE, Integer.MAX_VALUE}) {
            Check.that("nothing was written, byte " + index, x.reportByte(index), NONE);
        }
        Check.that("written", x.writeRoof(), 19);
        String first = "6c0o0 3 9c1o1 0 4c2";
        Text.run(x, "roof;");
        Check.that("a script leaves the report", Look.report(x), first);
        x.undo();
        Check.that("undo leaves the report", Look.report(x), first);
        Text.run(x, "roof;");
        Check.that("an empty report", x.writeRoof(), 0);
        Check.that("nothing of the earlier one", x.reportByte(0), NONE);
        Check.that("nothing of its end", x.reportByte(18), NONE);
        x.undo();
        Check.that("undo leaves the empty report", x.reportByte(0), NONE);
        Check.that("written again", x.writeRoof(), 19);
        Check.that("report", Look.report(x), first);
    }

    /** "An object is used for at most 512 calls": the last ones are answered as the first ones. */
    private static void lastOf512Calls() {
        RooftopCats x = new RooftopCats();
        for (int call = 1; call <= 511; call++) {
            Check.that("step in call " + call, x.step(0, 0), call % 2);
        }
        Check.that("undo in call 512", x.undo(), 7);
        RooftopCats y = new RooftopCats();
        for (int call = 1; call <= 511; call++) {
            y.saveSnapshot();
        }
        Check.that("passNights in call 512", y.passNights(30), 33);
        RooftopCats z = new RooftopCats();
        for (int call = 1; call <= 511; call++) {
            Check.that("append and runScript", call % 2 == 1 ? z.append(0, 0, 0, 0, 0) : z.runScript(), call % 2 == 1 ? 20 : NONE);
        }
        Check.that("runScript in call 512", z.runScript(), NONE);
    }
}
