/** Promises 1, 5 to 7 and 22 to 33 (a new object, chimneys, gutters and the roof). */
public final class RoofTest {
    private static final int NONE = RooftopCats.NONE;

    public static void main(String[] args) {
        newObject();
        addChimney();
        addGutter();
        addCat();
        counts();
        nightAndMoon();
        chimneys();
        gutters();
        widestWay();
        warmestFree();
        Check.end("RoofTest");
    }

    private static void newObject() {
        RooftopCats x = new RooftopCats();
        Check.that("as by the script", Look.atRoof(x), Look.atRoof(Text.roof(Text.FIRST)));
        Check.that("roof", Look.at(x), "night 3 moon 3; chimney 6 0 0; chimney 3 -1 -1; chimney 9 1 1; chimney 0 -1 -1; chimney 4 -1 2"
                + "; gutter 3 5; gutter 6 3; gutter 12 7; gutter 9 2; gutter 24 9"
                + "; cat 4 7 11 0 false truces 0 0 0; cat 3 8 16 2 false truces 0 0 3; cat 6 3 0 4 false truces 0 3 0"
                + "; kitten false 0 0; violations 0; undo 0; error 0 -1; report ");
        Check.that("nothing can be undone", x.undo(), NONE);
        Check.fails(x, "restoreSnapshot()", java.util.NoSuchElementException.class, x::restoreSnapshot);
        Check.that("no byte of a report", x.reportByte(0), NONE);
        Check.that("input is empty", x.append(0, 0, 0, 0, 0), 20);

        RooftopCats changed = new RooftopCats();
        changed.passNights(5);
        Check.that("objects do not share anything", Look.at(new RooftopCats()), Look.at(x));
    }

    private static void addChimney() {
        RooftopCats x = new RooftopCats();
        Check.badArgument(x, "addChimney(-1)", () -> x.addChimney(-1));
        Check.badArgument(x, "addChimney(10)", () -> x.addChimney(10));
        Check.badArgument(x, "addChimney(MIN)", () -> x.addChimney(Integer.MIN_VALUE));
        Check.badArgument(x, "addChimney(MAX)", () -> x.addChimney(Integer.MAX_VALUE));
        for (int chimney = 5; chimney < 10; chimney++) {
            int warmth = chimney == 5 ? 0 : chimney == 6 ? 9 : chimney;
            Check.that("addChimney", x.addChimney(warmth), chimney);
            Check.that("warmth", x.warmth(chimney), warmth);
            Check.that("owner", x.ownerOf(chimney), NONE);
            Check.that("cat", x.catOn(chimney), NONE);
            Check.that("count", x.chimneyCount(), chimney + 1);
            Check.that("undo count", x.undoCount(), chimney - 4);
        }
        Check.refused(x, "addChimney(0)", () -> x.addChimney(0));
        Check.badArgument(x, "addChimney(10) on a full roof", () -> x.addChimney(10));
    }

    private static void addGutter() {
        RooftopCats x = new RooftopCats();
        for (int chimney : Check.outside(5)) {
            Check.noPlace(x, "addGutter from " + chimney, () -> x.addGutter(chimney, 0, 1));
            Check.noPlace(x, "addGutter to " + chimney, () -> x.addGutter(0, chimney, 1));
            Check.noPlace(x, "addGutter both " + chimney, () -> x.addGutter(chimney, chimney, 0));
        }
        Check.badArgument(x, "addGutter(0, 0, 1)", () -> x.addGutter(0, 0, 1));
        for (int width : new int[] {0, 10, -1, Integer.MIN_VALUE, Integer.MAX_VALUE}) {
            Check.badArgument(x, "addGutter wide " + width, () -> x.addGutter(0, 1, width));
        }
        for (int gutter = 5; gutter < 20; gutter++) {
            int width = gutter % 9 + 1;
            Check.that("addGutter", x.addGutter(4, gutter % 4, width), gutter);
            Check.that("ends", x.gutterEnds(gutter), 1 << 4 | 1 << gutter % 4);
            Check.that("width", x.width(gutter), width);
            Check.that("count", x.gutterCount(), gutter + 1);
        }
        Check.that("undo count", x.undoCount(), 8);
        Check.refused(x, "21st gutter", () -> x.addGutter(0, 1, 1));
        Check.badArgument(x, "21st gutter of one chimney", () -> x.addGutter(1, 1, 1));
        Check.badArgument(x, "21st gutter too wide", () -> x.addGutter(0, 1, 10));
        Check.noPlace(x, "21st gutter nowhere", () -> x.addGutter(0, 5, 10));
    }

    private static void addCat() {
        RooftopCats x = new RooftopCats();
        for (int chimney : Check.outside(5)) {
            Check.noPlace(x, "addCat on " + chimney, () -> x.addCat(chimney, 0, 0));
        }
        for (int size : new int[] {0, 10, -1, Integer.MIN_VALUE, Integer.MAX_VALUE}) {
            Check.badArgument(x, "addCat with girth " + size, () -> x.addCat(1, size, 1));
            Check.badArgument(x, "addCat with strength " + size, () -> x.addCat(1, 1, size));
            Check.badArgument(x, "addCat on a cat with girth " + size, () -> x.addCat(0, size, 1));
        }
        Check.refused(x, "addCat on a cat", () -> x.addCat(0, 1, 1));
        x.addChimney(1);
        x.addChimney(1);
        x.addChimney(1);
        x.addChimney(1);
        int[] free = {1, 3, 5, 6, 7};
        for (int i = 0; i < free.length; i++) {
            Check.that("addCat", x.addCat(free[i], i + 5, 9 - i), 3 + i);
            Check.that("girth", x.girth(3 + i), i + 5);
            Check.that("power", x.power(3 + i), 9 - i);
            Check.that("fish", x.fish(3 + i), 5);
            Check.that("chimney", x.chimneyOf(3 + i), free[i]);
            Check.that("cat there", x.catOn(free[i]), 3 + i);
            Check.that("owns nothing", x.ownedChimneys(3 + i), 0);
            Check.that("no truce", x.truceNights(3 + i, 0), 0);
        }
        Check.that("violations", x.violations(), 0);
        Check.refused(x, "9th cat", () -> x.addCat(8, 1, 1));
        Check.badArgument(x, "9th cat too fat", () -> x.addCat(8, 10, 1));
        Check.noPlace(x, "9th cat nowhere", () -> x.addCat(9, 10, 1));
    }

    private static void counts() {
        RooftopCats x = new RooftopCats();
        Check.that("chimneys", x.chimneyCount(), 5);
        Check.that("gutters", x.gutterCount(), 5);
        Check.that("cats", x.catCount(), 3);
        x.addChimney(1);
        x.addGutter(0, 5, 1);
        x.addGutter(0, 5, 1);
        x.addCat(5, 1, 1);
        Check.that("chimneys", x.chimneyCount(), 6);
        Check.that("gutters", x.gutterCount(), 7);
        Check.that("cats", x.catCount(), 4);
        Text.run(x, "roof;");
        Check.that("chimneys", x.chimneyCount(), 0);
        Check.that("gutters", x.gutterCount(), 0);
        Check.that("cats", x.catCount(), 0);
    }

    private static void nightAndMoon() {
        RooftopCats x = Text.roof("roof;");
        for (int night = 0; night < 20; night++) {
            Check.that("night", x.night(), night);
            Check.that("moon", x.moonPhase(), night % 8);
            x.passNights(1);
        }
    }

    private static void chimneys() {
        RooftopCats x = new RooftopCats();
        int[] warmth = {6, 3, 9, 0, 4};
        int[] owner = {0, NONE, 1, NONE, NONE};
        int[] cat = {0, NONE, 1, NONE, 2};
        for (int i = 0; i < 5; i++) {
            Check.that("warmth " + i, x.warmth(i), warmth[i]);
            Check.that("ownerOf " + i, x.ownerOf(i), owner[i]);
            Check.that("catOn " + i, x.catOn(i), cat[i]);
        }
        for (int chimney : Check.outside(5)) {
            Check.noPlace(x, "warmth(" + chimney + ")", () -> x.warmth(chimney));
            Check.noPlace(x, "ownerOf(" + chimney + ")", () -> x.ownerOf(chimney));
            Check.noPlace(x, "catOn(" + chimney + ")", () -> x.catOn(chimney));
        }
        x.step(0, 0);
        Check.that("left", x.catOn(0), NONE);
        Check.that("still its own", x.ownerOf(0), 0);
        Check.that("moved", x.catOn(1), 0);
    }

    private static void gutters() {
        RooftopCats x = new RooftopCats();
        int[] ends = {3, 6, 12, 9, 24};
        int[] width = {5, 3, 7, 2, 9};
        for (int i = 0; i < 5; i++) {
            Check.that("gutterEnds " + i, x.gutterEnds(i), ends[i]);
            Check.that("width " + i, x.width(i), width[i]);
        }
        for (int gutter : Check.outside(5)) {
            Check.noPlace(x, "gutterEnds(" + gutter + ")", () -> x.gutterEnds(gutter));
            Check.noPlace(x, "width(" + gutter + ")", () -> x.width(gutter));
        }
    }

    private static void widestWay() {
        RooftopCats x = new RooftopCats();
        int[][] due = {
            {9, 5, 3, 3, 3},
            {5, 9, 3, 3, 3},
            {3, 3, 9, 7, 7},
            {3, 3, 7, 9, 9},
            {3, 3, 7, 9, 9},
        };
        for (int from = 0; from < 5; from++) {
            for (int to = 0; to < 5; to++) {
                Check.that("widestWay " + from + " " + to, x.widestWay(from, to), due[from][to]);
            }
        }
        for (int chimney : Check.outside(5)) {
            Check.noPlace(x, "widestWay(" + chimney + ", 0)", () -> x.widestWay(chimney, 0));
            Check.noPlace(x, "widestWay(0, " + chimney + ")", () -> x.widestWay(0, chimney));
            Check.noPlace(x, "widestWay of both " + chimney, () -> x.widestWay(chimney, chimney));
        }
        x.addChimney(5);
        Check.that("no way", x.widestWay(0, 5), NONE);
        Check.that("the same", x.widestWay(5, 5), 9);
        x.addGutter(5, 0, 1);
        Check.that("narrow", x.widestWay(5, 2), 1);
        // The longest way: nine gutters in a row, against their numbers.
        RooftopCats y = Text.roof("roof;repeat 10(chimney 1;);gutter 8 9 4;gutter 7 8 5;gutter 6 7 6;gutter 5 6 7;gutter 4 5 8;"
                + "gutter 3 4 9;gutter 2 3 8;gutter 1 2 7;gutter 0 1 6;");
        Check.that("a long way", y.widestWay(0, 9), 4);
        Check.that("a long way back", y.widestWay(9, 0), 4);
        Check.that("a part of it", y.widestWay(0, 8), 5);
    }

    private static void warmestFree() {
        RooftopCats x = new RooftopCats();
        Check.that("warmest", x.warmestFree(), 1);
        x.addChimney(3);
        Check.that("of two, the smallest", x.warmestFree(), 1);
        x.addChimney(9);
        Check.that("a warmer one", x.warmestFree(), 6);
        x.addCat(6, 1, 1);
        x.addCat(1, 1, 1);
        Check.that("the next", x.warmestFree(), 5);
        x.addCat(5, 1, 1);
        Check.that("a cold one", x.warmestFree(), 3);
        x.addCat(3, 1, 1);
        Check.that("no one", x.warmestFree(), NONE);
        Check.that("no chimney", Text.roof("roof;").warmestFree(), NONE);
        // A chimney that belongs to a cat is free if no cat sits there.
        Check.that("an own one", Text.roof("roof;chimney 9;chimney 8;gutter 0 1 9;cat 0 1 1;claim 0;step 0 0;").warmestFree(), 0);
    }
}
