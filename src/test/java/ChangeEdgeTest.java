/**
 * Promises 5 to 19 (changes, undo and the snapshot) at their edges: each range at its ends and just outside, each full
 * and each empty roof, each reason of a refusal, and which exception is thrown when several apply.
 */
public final class ChangeEdgeTest {
    private static final int NONE = RooftopCats.NONE;
    private static final String CATS = "cat 0 1 1;cat 1 1 1;cat 2 1 1;cat 3 1 1;cat 4 1 1;cat 5 1 1;cat 6 1 1;";
    private static final String LAST_NIGHT = "repeat 20(nights 30;);repeat 13(nights 30;);nights 9;";

    private static final Twin EMPTY = new Twin("roof;");
    private static final Twin FIRST = new Twin(Text.FIRST);

    public static void main(String[] args) {
        addChimney();
        addGutter();
        addGutterOnFewChimneys();
        addCat();
        step();
        stepRefused();
        claim();
        abandon();
        chase();
        chaseRefused();
        buyTruce();
        buyTruceRanges();
        buyTruceRefused();
        nominate();
        vote();
        passNights();
        undo();
        undoForgets();
        undoOfScripts();
        snapshot();
        Check.end("ChangeEdgeTest");
    }

    /** "warmth: 0 to 9", "if there are 10 chimneys". */
    private static void addChimney() {
        Twin nine = new Twin("roof;repeat 9(chimney 1;);");
        Twin ten = new Twin("roof;repeat 10(chimney 1;);");
        for (int warmth : Check.outside(0, 9)) {
            EMPTY.badArgument("first chimney of warmth " + warmth, x -> x.addChimney(warmth));
            nine.badArgument("10th chimney of warmth " + warmth, x -> x.addChimney(warmth));
            ten.badArgument("11th chimney of warmth " + warmth, x -> x.addChimney(warmth));
        }
        for (int each = 0; each <= 9; each++) {
            int warmth = each;
            EMPTY.does("first chimney of warmth " + warmth, 0, x -> x.addChimney(warmth));
            nine.does("10th chimney of warmth " + warmth, 9, x -> x.addChimney(warmth));
            ten.refused("11th chimney of warmth " + warmth, x -> x.addChimney(warmth));
            RooftopCats x = nine.make();
            x.addChimney(warmth);
            Check.that("warmth of the 10th", x.warmth(9), warmth);
            Check.that("chimneys", x.chimneyCount(), 10);
        }
    }

    /** "one, other: the number of a chimney", "both are the same", "width: 1 to 9", "if there are 20 gutters". */
    private static void addGutter() {
        Twin few = new Twin("roof;repeat 3(chimney 1;);repeat 19(gutter 0 1 1;);");
        Twin full = new Twin("roof;repeat 3(chimney 1;);repeat 20(gutter 0 1 1;);");
        for (Twin twin : new Twin[] {few, full}) {
            for (int wrong : Check.outside(3)) {
                twin.noPlace("gutter from " + wrong, x -> x.addGutter(wrong, 0, 1));
                twin.noPlace("gutter to " + wrong, x -> x.addGutter(0, wrong, 1));
                twin.noPlace("gutter from and to " + wrong, x -> x.addGutter(wrong, wrong, 1));
                twin.noPlace("too narrow gutter from " + wrong, x -> x.addGutter(wrong, 2, 0));
                twin.noPlace("too wide gutter to " + wrong, x -> x.addGutter(2, wrong, 10));
            }
            for (int wrong : Check.outside(1, 9)) {
                twin.badArgument("gutter of width " + wrong, x -> x.addGutter(1, 2, wrong));
                twin.badArgument("gutter back of width " + wrong, x -> x.addGutter(2, 0, wrong));
                twin.badArgument("gutter in a ring of width " + wrong, x -> x.addGutter(1, 1, wrong));
            }
            for (int each = 0; each < 3; each++) {
                int chimney = each;
                twin.badArgument("gutter in a ring at " + chimney, x -> x.addGutter(chimney, chimney, 1));
            }
        }
        for (int each = 1; each <= 9; each++) {
            int width = each;
            few.does("20th gutter of width " + width, 19, x -> x.addGutter(2, 0, width));
            full.refused("21st gutter of width " + width, x -> x.addGutter(2, 0, width));
            RooftopCats x = few.make();
            x.addGutter(2, 0, width);
            Check.that("width of the 20th", x.width(19), width);
            Check.that("ends of the 20th", x.gutterEnds(19), 5);
            Check.that("gutters", x.gutterCount(), 20);
        }
    }

    private static void addGutterOnFewChimneys() {
        Twin one = new Twin("roof;chimney 1;");
        EMPTY.noPlace("gutter without chimneys", x -> x.addGutter(0, 1, 1));
        EMPTY.noPlace("gutter in a ring without chimneys", x -> x.addGutter(0, 0, 1));
        one.noPlace("gutter to a second chimney", x -> x.addGutter(0, 1, 1));
        one.noPlace("gutter from a second chimney", x -> x.addGutter(1, 0, 1));
        one.badArgument("gutter in a ring", x -> x.addGutter(0, 0, 1));
        new Twin("roof;chimney 1;chimney 1;").does("gutter between two", 0, x -> x.addGutter(1, 0, 1));
        // "several gutters can connect the same chimneys"
        new Twin("roof;chimney 1;chimney 1;gutter 0 1 4;").does("the same gutter again", 1, x -> x.addGutter(0, 1, 4));
    }

    /** "girth, strength: 1 to 9", "if there are 8 cats, or a cat sits on the chimney". */
    private static void addCat() {
        String roof = "roof;repeat 10(chimney 1;);" + CATS;
        Twin seven = new Twin(roof);
        Twin eight = new Twin(roof + "cat 7 1 1;");
        EMPTY.noPlace("cat without chimneys", x -> x.addCat(0, 1, 1));
        for (Twin twin : new Twin[] {seven, eight}) {
            for (int wrong : Check.outside(10)) {
                twin.noPlace("cat on " + wrong, x -> x.addCat(wrong, 1, 1));
                twin.noPlace("too slim cat on " + wrong, x -> x.addCat(wrong, 0, 1));
                twin.noPlace("too strong cat on " + wrong, x -> x.addCat(wrong, 1, 10));
            }
            for (int wrong : Check.outside(1, 9)) {
                twin.badArgument("cat of girth " + wrong, x -> x.addCat(9, wrong, 1));
                twin.badArgument("cat of strength " + wrong, x -> x.addCat(9, 1, wrong));
                twin.badArgument("cat on a cat, of girth " + wrong, x -> x.addCat(0, wrong, 9));
                twin.badArgument("cat on a cat, of strength " + wrong, x -> x.addCat(6, 9, wrong));
            }
            twin.refused("cat on the first cat", x -> x.addCat(0, 1, 1));
            twin.refused("cat on the 7th cat", x -> x.addCat(6, 1, 1));
        }
        eight.refused("9th cat on a free chimney", x -> x.addCat(8, 1, 1));
        for (int each = 1; each <= 9; each++) {
            int size = each;
            seven.does("8th cat of girth " + size, 7, x -> x.addCat(7, size, 5));
            seven.does("8th cat of strength " + size, 7, x -> x.addCat(9, 5, size));
            RooftopCats x = seven.make();
            x.addCat(7, size, 10 - size);
            Check.that("girth of the 8th", x.girth(7), size);
            Check.that("strength of the 8th", x.power(7), 10 - size);
            Check.that("fish of the 8th", x.fish(7), 5);
            Check.that("cats", x.catCount(), 8);
        }
    }

    /** "if cat or gutter does not exist". */
    private static void step() {
        EMPTY.noPlace("step without cats and gutters", x -> x.step(0, 0));
        new Twin("roof;chimney 1;cat 0 1 1;").noPlace("step without gutters", x -> x.step(0, 0));
        new Twin("roof;chimney 1;chimney 1;gutter 0 1 1;").noPlace("step without cats", x -> x.step(0, 0));
        for (int wrong : Check.outside(3)) {
            FIRST.noPlace("step of " + wrong, x -> x.step(wrong, 0));
            FIRST.noPlace("step of " + wrong + " through no gutter", x -> x.step(wrong, 5));
        }
        for (int wrong : Check.outside(5)) {
            FIRST.noPlace("step through " + wrong, x -> x.step(0, wrong));
        }
        FIRST.does("step of the first cat through the first gutter", 1, x -> x.step(0, 0));
        FIRST.does("step of the last cat through the last gutter", 3, x -> x.step(2, 4));
    }

    /** "if the step is refused": for each of the reasons. */
    private static void stepRefused() {
        Twin twin = new Twin("roof;repeat 6(chimney 1;);gutter 1 2 9;gutter 0 1 3;gutter 0 2 9;gutter 0 3 9;gutter 0 4 4;gutter 0 5 5;"
                + "cat 3 1 1;claim 0;step 0 3;step 0 2;cat 0 4 1;");
        int[] reasons = {1, 2, 3, 4, 0, 0};
        for (int each = 0; each < reasons.length; each++) {
            int gutter = each;
            twin.tells("whyNoStep through " + gutter, reasons[gutter], x -> x.whyNoStep(1, gutter));
            if (reasons[gutter] != 0) {
                twin.refused("step through " + gutter, x -> x.step(1, gutter));
            }
        }
        twin.does("step through a gutter as wide as the cat", 4, x -> x.step(1, 4));
        twin.does("step through a wider gutter", 5, x -> x.step(1, 5));
    }

    /** "Returns the number of chimneys that it owns afterwards", "if the claim is refused". */
    private static void claim() {
        EMPTY.noPlace("claim without cats", x -> x.claim(0));
        for (int wrong : Check.outside(3)) {
            FIRST.noPlace("claim of " + wrong, x -> x.claim(wrong));
        }
        FIRST.refused("claim of the own chimney", x -> x.claim(1));
        FIRST.does("claim of the last cat", 1, x -> x.claim(2));
        StringBuilder row = new StringBuilder("roof;repeat 6(chimney 1;);gutter 0 1 1;gutter 1 2 1;gutter 2 3 1;gutter 3 4 1;gutter 4 5 1;cat 0 1 1;");
        for (int owned = 0; owned < 4; owned++) {
            new Twin(row.toString()).does("claim of a cat that owns " + owned, owned + 1, x -> x.claim(0));
            row.append("claim 0;step 0 ").append(owned).append(';');
        }
        new Twin(row.toString()).refused("claim of a cat that owns 4", x -> x.claim(0));
        new Twin(row.append("abandon 2;").toString()).does("claim of a cat that owned 4", 4, x -> x.claim(0));
        new Twin("roof;chimney 1;chimney 1;gutter 0 1 1;cat 0 1 1;claim 0;step 0 0;cat 0 1 1;")
                .refused("claim of a chimney of another cat", x -> x.claim(1));
    }

    /** "Returns the previous owner", "if it belongs to no cat". */
    private static void abandon() {
        EMPTY.noPlace("abandon without chimneys", x -> x.abandon(0));
        for (int wrong : Check.outside(5)) {
            FIRST.noPlace("abandon " + wrong, x -> x.abandon(wrong));
        }
        FIRST.refused("abandon no one's chimney", x -> x.abandon(1));
        FIRST.refused("abandon no one's chimney with a cat", x -> x.abandon(4));
        FIRST.does("abandon the chimney of cat 0", 0, x -> x.abandon(0));
        new Twin(Text.FIRST, x -> x.abandon(0)).refused("abandon it again", x -> x.abandon(0));
        new Twin("roof;repeat 10(chimney 1;);gutter 8 9 1;" + CATS + "cat 9 1 1;claim 7;step 7 0;")
                .does("abandon the last chimney, of the last cat", 7, x -> x.abandon(9));
    }

    /** "if cat or target is not the number of a cat", "if both are the same cat". */
    private static void chase() {
        EMPTY.noPlace("chase without cats", x -> x.chase(0, 1));
        EMPTY.noPlace("chase of itself without cats", x -> x.chase(0, 0));
        Twin one = new Twin("roof;chimney 1;cat 0 1 1;");
        one.noPlace("chase at a second cat", x -> x.chase(0, 1));
        one.noPlace("chase of a second cat", x -> x.chase(1, 0));
        one.badArgument("chase of the only cat at itself", x -> x.chase(0, 0));
        for (int wrong : Check.outside(3)) {
            FIRST.noPlace("chase of " + wrong, x -> x.chase(wrong, 2));
            FIRST.noPlace("chase at " + wrong, x -> x.chase(2, wrong));
            FIRST.noPlace("chase of " + wrong + " at itself", x -> x.chase(wrong, wrong));
        }
        for (int each = 0; each < 3; each++) {
            int cat = each;
            FIRST.badArgument("chase of " + cat + " at itself", x -> x.chase(cat, cat));
        }
    }

    /** "if the chase is refused": for each of the reasons; "whether the chimney ... belongs to the cat afterwards". */
    private static void chaseRefused() {
        String roof = "roof;repeat 5(chimney 1;);gutter 0 1 4;gutter 0 2 3;gutter 3 0 5;cat 0 4 5;cat 1 1 4;cat 2 1 4;cat 3 1 5;cat 4 1 1;";
        Twin twin = new Twin(roof + "truce 0 4 1 2;");
        int[] reasons = {-1, 0, 7, 9, 7};
        for (int each = 1; each < reasons.length; each++) {
            int target = each;
            twin.tells("whyNoChase at " + target, reasons[target], x -> x.whyNoChase(0, target));
            if (reasons[target] != 0) {
                twin.refused("chase at " + target, x -> x.chase(0, target));
            }
        }
        twin.does("chase at a weaker cat, on no one's chimney", 0, x -> x.chase(0, 1) ? 1 : 0);
        Twin truce = new Twin(roof + "truce 1 0 1 1;");
        truce.tells("whyNoChase in a truce", 8, x -> x.whyNoChase(0, 1));
        truce.refused("chase in a truce", x -> x.chase(0, 1));
        new Twin(roof + "truce 1 0 1 1;nights 1;").does("chase behind a truce", 0, x -> x.chase(0, 1) ? 1 : 0);
        new Twin("roof;chimney 1;chimney 1;gutter 0 1 1;cat 0 1 4;cat 1 1 1;claim 1;")
                .does("chase at the owner", 1, x -> x.chase(0, 1) ? 1 : 0);
    }

    /** "if cat or other is not the number of a cat", "if both are the same cat". */
    private static void buyTruce() {
        EMPTY.noPlace("truce without cats", x -> x.buyTruce(0, 1, 1, 1));
        EMPTY.noPlace("truce with itself without cats", x -> x.buyTruce(0, 0, 1, 1));
        for (int wrong : Check.outside(3)) {
            FIRST.noPlace("truce of " + wrong, x -> x.buyTruce(wrong, 0, 1, 1));
            FIRST.noPlace("truce with " + wrong, x -> x.buyTruce(0, wrong, 1, 1));
            FIRST.noPlace("truce of " + wrong + " with itself", x -> x.buyTruce(wrong, wrong, 1, 1));
            FIRST.noPlace("truce of " + wrong + " for no fish", x -> x.buyTruce(wrong, 0, 0, 1));
            FIRST.noPlace("truce with " + wrong + " for no night", x -> x.buyTruce(0, wrong, 1, 0));
        }
        for (int each = 0; each < 3; each++) {
            int cat = each;
            FIRST.badArgument("truce of " + cat + " with itself", x -> x.buyTruce(cat, cat, 1, 1));
        }
    }

    /** "fish: 1 to 9", "nights: 1 to 20". */
    private static void buyTruceRanges() {
        for (int wrong : Check.outside(1, 9)) {
            FIRST.badArgument("truce for " + wrong + " fish", x -> x.buyTruce(0, 1, wrong, 1));
            FIRST.badArgument("second truce for " + wrong + " fish", x -> x.buyTruce(1, 2, wrong, 1));
        }
        for (int wrong : Check.outside(1, 20)) {
            FIRST.badArgument("truce for " + wrong + " nights", x -> x.buyTruce(0, 1, 1, wrong));
            FIRST.badArgument("truce of a poor cat for " + wrong + " nights", x -> x.buyTruce(2, 0, 9, wrong));
        }
        FIRST.badArgument("truce of a poor cat with itself", x -> x.buyTruce(2, 2, 9, 20));
        for (int each = 1; each <= 9; each++) {
            int fish = each;
            FIRST.does("truce for " + fish + " fish", 4, x -> x.buyTruce(0, 1, fish, 1));
            RooftopCats x = FIRST.make();
            x.buyTruce(0, 1, fish, 1);
            Check.that("fish of the buyer", x.fish(0), 11 - fish);
            Check.that("fish of the other one", x.fish(1), 16 + fish);
        }
        for (int each = 1; each <= 20; each++) {
            int nights = each;
            FIRST.does("truce for " + nights + " nights", 3 + nights, x -> x.buyTruce(0, 1, 1, nights));
        }
    }

    /** "if there is a truce between both, the cat has fewer fish, or the other one would have more than 99". */
    private static void buyTruceRefused() {
        FIRST.refused("truce in a truce", x -> x.buyTruce(1, 2, 1, 1));
        FIRST.refused("truce of a cat without fish", x -> x.buyTruce(2, 0, 1, 1));
        FIRST.refused("truce in a truce, of a cat without fish", x -> x.buyTruce(2, 1, 1, 1));
        new Twin(Text.FIRST + "nights 2;").refused("truce in the last night of a truce", x -> x.buyTruce(1, 2, 1, 1));
        new Twin(Text.FIRST + "nights 3;").does("truce behind a truce", 7, x -> x.buyTruce(1, 2, 1, 1));
        Twin five = new Twin("roof;chimney 1;chimney 1;cat 0 1 1;cat 1 1 1;");
        five.does("4 of 5 fish", 1, x -> x.buyTruce(0, 1, 4, 1));
        five.does("5 of 5 fish", 20, x -> x.buyTruce(1, 0, 5, 20));
        five.refused("6 of 5 fish", x -> x.buyTruce(0, 1, 6, 1));
        Twin full = new Twin("roof;chimney 9;chimney 9;cat 0 1 1;cat 1 1 1;claim 0;claim 1;repeat 2(nights 20;);abandon 1;nights 3;");
        full.tells("fish of the one", 99, x -> x.fish(0));
        full.tells("fish of the other", 96, x -> x.fish(1));
        full.does("98 fish then", 44, x -> x.buyTruce(0, 1, 2, 1));
        full.does("99 fish then", 44, x -> x.buyTruce(0, 1, 3, 1));
        full.refused("100 fish then", x -> x.buyTruce(0, 1, 4, 1));
        full.refused("100 fish the other way", x -> x.buyTruce(1, 0, 1, 1));
    }

    /** "Returns the number of cats that must vote", "if a kitten is waiting, or there is no cat, or there are 8 cats". */
    private static void nominate() {
        Twin one = new Twin("roof;chimney 1;chimney 1;cat 0 1 1;");
        Twin seven = new Twin("roof;repeat 10(chimney 1;);" + CATS);
        Twin eight = new Twin("roof;repeat 10(chimney 1;);" + CATS + "cat 7 1 1;");
        Twin waits = new Twin("roof;chimney 1;chimney 1;cat 0 1 1;cat 1 1 1;kitten 2 2;no 1;");
        for (Twin twin : new Twin[] {EMPTY, one, seven, eight, waits}) {
            for (int wrong : Check.outside(1, 9)) {
                twin.badArgument("kitten of girth " + wrong, x -> x.nominate(wrong, 1));
                twin.badArgument("kitten of strength " + wrong, x -> x.nominate(9, wrong));
            }
        }
        EMPTY.refused("kitten without cats", x -> x.nominate(1, 1));
        eight.refused("kitten with 8 cats", x -> x.nominate(1, 1));
        waits.refused("kitten while one waits", x -> x.nominate(1, 1));
        new Twin("roof;repeat 10(chimney 1;);" + CATS + "kitten 1 1;cat 7 1 1;")
                .refused("kitten with 8 cats while one waits", x -> x.nominate(1, 1));
        new Twin("roof;chimney 1;chimney 1;cat 0 1 1;cat 1 1 1;kitten 2 2;no 1;no 0;")
                .does("kitten behind another one", 2, x -> x.nominate(1, 1));
        for (int each = 1; each <= 9; each++) {
            int size = each;
            one.does("kitten of girth " + size, 1, x -> x.nominate(size, 5));
            seven.does("kitten of strength " + size, 7, x -> x.nominate(5, size));
            RooftopCats x = one.make();
            x.nominate(size, 10 - size);
            x.vote(0, true);
            Check.that("girth of the kitten", x.girth(1), size);
            Check.that("strength of the kitten", x.power(1), 10 - size);
        }
    }

    /** "if cat is not the number of a cat", "if no kitten is waiting, or the cat has voted". */
    private static void vote() {
        EMPTY.noPlace("vote without cats", x -> x.vote(0, true));
        Twin waits = new Twin("roof;repeat 4(chimney 1;);cat 0 1 1;cat 1 1 1;cat 2 1 1;kitten 2 2;yes 2;no 0;");
        for (int wrong : Check.outside(3)) {
            FIRST.noPlace("vote of " + wrong + " without a kitten", x -> x.vote(wrong, true));
            waits.noPlace("vote of " + wrong, x -> x.vote(wrong, false));
        }
        for (int each = 0; each < 3; each++) {
            int cat = each;
            FIRST.refused("vote of " + cat + " for no kitten", x -> x.vote(cat, true));
            FIRST.refused("vote of " + cat + " against no kitten", x -> x.vote(cat, false));
        }
        waits.refused("second vote for", x -> x.vote(2, true));
        waits.refused("second vote against", x -> x.vote(2, false));
        waits.refused("changed vote for", x -> x.vote(0, true));
        waits.does("last vote for", 1, x -> x.vote(1, true) ? 1 : 0);
        waits.does("last vote against", 0, x -> x.vote(1, false) ? 1 : 0);
        new Twin("roof;repeat 4(chimney 1;);cat 0 1 1;cat 1 1 1;cat 2 1 1;kitten 2 2;yes 2;no 0;yes 1;")
                .refused("vote on the admitted kitten", x -> x.vote(1, true));
        new Twin(Text.FIRST, x -> x.nominate(1, 1)).does("not the last vote", 0, x -> x.vote(0, true) ? 1 : 0);
    }

    /** "nights: 1 to 30", "if the night would become greater than 999". */
    private static void passNights() {
        String roof = "roof;chimney 3;cat 0 1 1;claim 0;repeat 20(nights 30;);";
        Twin at969 = new Twin(roof + "repeat 12(nights 30;);nights 9;");
        Twin at998 = new Twin(roof + "repeat 13(nights 30;);nights 8;");
        Twin at999 = new Twin(roof + "repeat 13(nights 30;);nights 9;");
        for (int wrong : Check.outside(1, 30)) {
            EMPTY.badArgument("nights " + wrong, x -> x.passNights(wrong));
            at969.badArgument("nights " + wrong + " in night 969", x -> x.passNights(wrong));
            at999.badArgument("nights " + wrong + " in the last night", x -> x.passNights(wrong));
        }
        for (int each = 1; each <= 30; each++) {
            int nights = each;
            EMPTY.does("nights " + nights, nights, x -> x.passNights(nights));
            at969.does("nights to " + (969 + nights), 969 + nights, x -> x.passNights(nights));
            at999.refused("nights " + nights + " behind the last one", x -> x.passNights(nights));
        }
        at998.does("the last night", 999, x -> x.passNights(1));
        at998.refused("to night 1000", x -> x.passNights(2));
        new Twin(roof + "repeat 12(nights 30;);nights 10;").refused("30 nights to night 1000", x -> x.passNights(30));
        new Twin(roof + "repeat 12(nights 30;);nights 10;").does("29 nights to night 999", 999, x -> x.passNights(29));
    }

    /** "Returns the number of changes that can still be undone, or NONE if there was nothing to undo." */
    private static void undo() {
        RooftopCats x = new RooftopCats();
        String first = Look.at(x);
        Check.that("nothing to undo", x.undo(), NONE);
        Check.that("nothing to undo again", x.undo(), NONE);
        Check.that("nothing undone", Look.at(x), first);
        x.passNights(1);
        String second = Look.atRoof(x);
        Check.that("one change", x.undoCount(), 1);
        x.passNights(1);
        Check.that("two changes", x.undoCount(), 2);
        Check.that("the last but one", x.undo(), 1);
        Check.that("one undone", Look.atRoof(x), second);
        Check.that("the last one", x.undo(), 0);
        Check.that("both undone", Look.at(x), first);
        Check.that("nothing left", x.undo(), NONE);
        Check.that("none of it changed", Look.at(x), first);
    }

    /** "The latest 8 are remembered": with 7, 8, 9 and more changes, and with changes made after some were undone. */
    private static void undoForgets() {
        for (int changes = 0; changes <= 40; changes++) {
            RooftopCats x = new RooftopCats();
            for (int i = 0; i < changes; i++) {
                x.passNights(1);
            }
            int left = Math.min(changes, 8);
            Check.that("undoCount behind " + changes, x.undoCount(), left);
            for (int i = 1; i <= left; i++) {
                Check.that("undo " + i + " of " + changes, x.undo(), left - i);
                Check.that("night", x.night(), 3 + changes - i);
            }
            Check.that("undo once more", x.undo(), NONE);
            Check.that("night", x.night(), 3 + changes - left);
        }
        for (int undone = 0; undone <= 8; undone++) {
            RooftopCats x = new RooftopCats();
            for (int i = 0; i < 9; i++) {
                x.passNights(1);
            }
            for (int i = 0; i < undone; i++) {
                x.undo();
            }
            x.passNights(20);
            Check.that("undoCount behind " + undone + " undone", x.undoCount(), Math.min(9 - undone, 8));
            x.undo();
            Check.that("night before it", x.night(), 12 - undone);
            for (int i = 0; i < 8; i++) {
                x.undo();
            }
            // The ninth change back is forgotten, and a further one where nothing was undone.
            Check.that("earliest night", x.night(), undone == 0 ? 5 : 4);
        }
    }

    /** "each successful script, can be undone": as one change, whatever its commands; one with an error is none. */
    private static void undoOfScripts() {
        RooftopCats x = new RooftopCats();
        String first = Look.atRoof(x);
        for (int i = 1; i <= 9; i++) {
            Text.run(x, "roof;chimney 1;chimney 2;repeat " + i + "(nights 1;);");
            Check.that("undoCount behind script " + i, x.undoCount(), Math.min(i, 8));
            Text.run(x, "roof;chimney 1;chimney 2;nights 31;");
            Check.that("undoCount behind an error", x.undoCount(), Math.min(i, 8));
        }
        for (int i = 8; i >= 1; i--) {
            Check.that("undo of a script", x.undo(), i - 1);
            Check.that("night", x.night(), i);
        }
        Check.that("the roof at first is forgotten", x.undo(), NONE);
        RooftopCats y = new RooftopCats();
        Text.run(y, "roof;chimney 1;chimney 2;");
        Check.that("undo of the only one", y.undo(), 0);
        Check.that("the roof at first", Look.atRoof(y), first);
    }

    /** "if no snapshot was saved", "in place of an earlier one", "which stays saved", "Nothing can be undone afterwards". */
    private static void snapshot() {
        RooftopCats none = new RooftopCats();
        none.passNights(1);
        Check.fails(none, "restoreSnapshot()", java.util.NoSuchElementException.class, none::restoreSnapshot);
        Text.run(none, "roof;");
        Check.fails(none, "restoreSnapshot() behind a script", java.util.NoSuchElementException.class, none::restoreSnapshot);
        Check.that("still undone", none.undo(), 1);
        RooftopCats x = Text.roof("roof;" + LAST_NIGHT);
        Check.that("saved in the last night", x.saveSnapshot(), 999);
        x.undo();
        Check.that("undo leaves it", x.restoreSnapshot(), 999);
        Check.that("nothing to undo", x.undo(), NONE);
        Check.that("night", x.night(), 999);
        Text.run(x, "roof;");
        Check.that("saved in the first night", x.saveSnapshot(), 0);
        for (int i = 0; i < 9; i++) {
            x.passNights(1);
        }
        Check.that("in place of an earlier one", x.restoreSnapshot(), 0);
        Check.that("undoCount", x.undoCount(), 0);
        Check.that("nothing to undo", x.undo(), NONE);
        x.passNights(1);
        Check.that("undo begins again", x.undoCount(), 1);
        Check.that("restored again", x.restoreSnapshot(), 0);
        Check.that("night", x.night(), 0);
        Check.that("undoCount", x.undoCount(), 0);
    }
}
