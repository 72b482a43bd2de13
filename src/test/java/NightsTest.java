/** Promises 13 to 15 and 47 to 57 (kittens, nights, choirs and fish). */
public final class NightsTest {
    private static final int NONE = RooftopCats.NONE;

    public static void main(String[] args) {
        nominate();
        votes();
        voteRefusals();
        admission();
        lateCats();
        passNights();
        suppers();
        feasts();
        fishLimits();
        choirs();
        fullMoon();
        fishAfter();
        riches();
        Check.end("NightsTest");
    }

    private static void nominate() {
        RooftopCats x = new RooftopCats();
        for (int size : new int[] {0, 10, -1, Integer.MIN_VALUE, Integer.MAX_VALUE}) {
            Check.badArgument(x, "girth " + size, () -> x.nominate(size, 1));
            Check.badArgument(x, "strength " + size, () -> x.nominate(1, size));
        }
        Check.that("none waits", x.isKittenWaiting(), false);
        Check.that("must vote", x.nominate(9, 1), 3);
        Check.that("waits", x.isKittenWaiting(), true);
        Check.refused(x, "a second one", () -> x.nominate(1, 9));
        Check.badArgument(x, "a second one too fat", () -> x.nominate(10, 9));
        x.vote(0, true);
        Check.refused(x, "a second one later", () -> x.nominate(1, 9));
        x.undo();
        x.undo();
        Check.that("undone", x.isKittenWaiting(), false);
        Check.that("again", x.nominate(1, 9), 3);
        Check.that("no vote", x.hasVoted(0), false);

        RooftopCats y = Text.roof("roof;chimney 1;");
        Check.refused(y, "without cats", () -> y.nominate(1, 1));
        Check.badArgument(y, "without cats and girth", () -> y.nominate(0, 1));
        RooftopCats z = eightCats("");
        Check.refused(z, "with 8 cats", () -> z.nominate(1, 1));
        RooftopCats one = Text.roof("roof;chimney 1;cat 0 1 1;");
        Check.that("a single cat", one.nominate(1, 1), 1);
    }

    private static RooftopCats eightCats(String more) {
        return Text.roof("roof;repeat 9(chimney 1;);cat 0 1 1;cat 1 1 1;cat 2 1 1;cat 3 1 1;cat 4 1 1;cat 5 1 1;cat 6 1 1;" + more + "cat 7 1 1;");
    }

    private static void votes() {
        RooftopCats x = new RooftopCats();
        Check.that("for", x.votesFor(), 0);
        Check.that("against", x.votesAgainst(), 0);
        Check.that("voted", x.hasVoted(0), false);
        x.nominate(2, 3);
        Check.that("admitted", x.vote(1, true), false);
        Check.that("for", x.votesFor(), 1);
        Check.that("against", x.votesAgainst(), 0);
        Check.that("voted 0", x.hasVoted(0), false);
        Check.that("voted 1", x.hasVoted(1), true);
        Check.that("admitted", x.vote(0, false), false);
        Check.that("for", x.votesFor(), 1);
        Check.that("against", x.votesAgainst(), 1);
        Check.that("voted 0", x.hasVoted(0), true);
        Check.that("voted 2", x.hasVoted(2), false);
        Check.that("admitted", x.vote(2, true), true);
        Check.that("for", x.votesFor(), 0);
        Check.that("against", x.votesAgainst(), 0);
        Check.that("waits", x.isKittenWaiting(), false);
        for (int cat = 0; cat < 4; cat++) {
            Check.that("voted " + cat, x.hasVoted(cat), false);
        }
        for (int cat : Check.outside(4)) {
            Check.noPlace(x, "hasVoted " + cat, () -> x.hasVoted(cat));
        }
        Check.that("girth", x.girth(3), 2);
        Check.that("power", x.power(3), 3);
        Check.that("fish", x.fish(3), 5);
        Check.that("chimney", x.chimneyOf(3), 1);
        Check.that("violations", x.violations(), 0);
        Check.that("undo count", x.undoCount(), 4);
    }

    private static void voteRefusals() {
        RooftopCats x = new RooftopCats();
        Check.refused(x, "no kitten", () -> x.vote(0, true));
        for (int cat : Check.outside(3)) {
            Check.noPlace(x, "vote of " + cat + " without a kitten", () -> x.vote(cat, true));
        }
        x.nominate(1, 1);
        for (int cat : Check.outside(3)) {
            Check.noPlace(x, "vote of " + cat, () -> x.vote(cat, false));
        }
        x.vote(0, false);
        Check.refused(x, "second vote", () -> x.vote(0, true));
        x.vote(1, true);
        Check.refused(x, "second vote", () -> x.vote(1, true));
        x.vote(2, false);
        Check.refused(x, "after the vote", () -> x.vote(2, true));
    }

    private static void admission() {
        RooftopCats tie = Text.roof("roof;chimney 1;chimney 1;chimney 9;cat 0 1 1;cat 1 1 1;kitten 1 1;yes 0;");
        Check.that("a tie", tie.vote(1, false), false);
        Check.that("cats", tie.catCount(), 2);
        Check.that("waits", tie.isKittenWaiting(), false);
        RooftopCats full = Text.roof("roof;chimney 1;chimney 1;cat 0 1 1;cat 1 1 1;kitten 1 1;yes 0;");
        Check.that("no chimney", full.vote(1, true), false);
        Check.that("cats", full.catCount(), 2);
        Check.that("waits", full.isKittenWaiting(), false);
        RooftopCats warm = Text.roof("roof;chimney 9;chimney 4;chimney 7;chimney 7;cat 0 1 1;kitten 1 1;");
        Check.that("admitted", warm.vote(0, true), true);
        Check.that("the warmest, the smallest number", warm.chimneyOf(1), 2);
        RooftopCats no = Text.roof("roof;chimney 9;chimney 4;cat 0 1 1;kitten 1 1;");
        Check.that("against", no.vote(0, false), false);
        Check.that("waits", no.isKittenWaiting(), false);
        // It may sit on a chimney that belongs to another cat.
        RooftopCats owned = Text.roof("roof;chimney 9;chimney 4;gutter 0 1 9;cat 0 1 1;claim 0;step 0 0;kitten 1 1;yes 0;");
        Check.that("cats", owned.catCount(), 2);
        Check.that("chimney", owned.chimneyOf(1), 0);
        Check.that("owner", owned.ownerOf(0), 0);
    }

    private static void lateCats() {
        RooftopCats x = new RooftopCats();
        x.nominate(1, 1);
        x.vote(0, true);
        x.vote(1, true);
        x.addCat(1, 1, 1);
        Check.that("not the last one any more", x.vote(2, true), false);
        Check.that("waits", x.isKittenWaiting(), true);
        Check.that("the late one has not voted", x.hasVoted(3), false);
        Check.that("the last one", x.vote(3, false), true);
        Check.that("cats", x.catCount(), 5);
        // With 8 cats it is not admitted.
        RooftopCats y = eightCats("kitten 1 1;");
        for (int cat = 0; cat < 7; cat++) {
            y.vote(cat, true);
        }
        Check.that("for", y.votesFor(), 7);
        Check.that("a 9th cat", y.vote(7, true), false);
        Check.that("cats", y.catCount(), 8);
        Check.that("waits", y.isKittenWaiting(), false);
    }

    private static void passNights() {
        RooftopCats x = new RooftopCats();
        for (int nights : new int[] {0, 31, -1, Integer.MIN_VALUE, Integer.MAX_VALUE}) {
            Check.badArgument(x, "passNights " + nights, () -> x.passNights(nights));
        }
        Check.that("one", x.passNights(1), 4);
        Check.that("thirty", x.passNights(30), 34);
        while (x.night() + 30 <= 999) {
            x.passNights(30);
        }
        Check.that("night", x.night(), 994);
        Check.refused(x, "passNights(6)", () -> x.passNights(6));
        Check.refused(x, "passNights(30)", () -> x.passNights(30));
        Check.badArgument(x, "passNights(31)", () -> x.passNights(31));
        Check.that("the last night", x.passNights(5), 999);
        Check.that("moon", x.moonPhase(), 7);
        Check.refused(x, "one more", () -> x.passNights(1));
        Check.that("violations", x.violations(), 0);
        Check.that("fish after the last night", x.fishAfter(2, 30), 0);
    }

    private static void suppers() {
        for (int warmth = 0; warmth < 10; warmth++) {
            RooftopCats x = Text.roof("roof;chimney 9;chimney " + warmth + ";cat 0 1 1;cat 1 1 1;claim 1;");
            x.passNights(1);
            Check.that("fish at home", x.fish(1), 5 + warmth / 3);
            Check.that("fish away", x.fish(0), 4);
            x.passNights(2);
            Check.that("fish at home", x.fish(1), 5 + 3 * (warmth / 3));
            Check.that("violations", x.violations(), 0);
        }
        // A cat that owns a chimney, but does not sit there, eats.
        RooftopCats y = Text.roof("roof;chimney 9;chimney 9;gutter 0 1 9;cat 0 1 1;claim 0;step 0 0;nights 3;");
        Check.that("away from home", y.fish(0), 2);
        y.passNights(1);
        Check.that("eaten, then the feast", y.fish(0), 2);
    }

    private static void feasts() {
        RooftopCats x = new RooftopCats();
        x.passNights(1);
        Check.that("a choir of one", x.fish(0), 14);
        Check.that("another one", x.fish(1), 19);
        Check.that("a third one", x.fish(2), 0);
        x.passNights(7);
        Check.that("no feast", x.fish(2), 0);
        x.step(2, 4);
        Check.that("choir of all, by narrow gutters too", x.largestChoir(), 7);
        x.passNights(1);
        Check.that("night", x.night(), 12);
        Check.that("in the choir", x.fish(0), 14 + 16 + 3);
        Check.that("in the choir", x.fish(1), 19 + 24 + 3);
        Check.that("in the choir", x.fish(2), 3);
        Check.that("violations", x.violations(), 0);
        // Eaten first, then the feast; and the feasts of many nights.
        RooftopCats y = Text.roof("roof;chimney 1;chimney 1;chimney 1;gutter 0 1 1;gutter 1 2 1;cat 0 9 1;cat 1 9 1;cat 2 9 1;nights 30;");
        Check.that("nights 4, 12, 20 and 28", y.fish(1), 1);
        y.undo();
        RooftopCats z = Text.roof("roof;chimney 1;chimney 1;chimney 1;gutter 0 1 1;gutter 1 2 1;cat 0 9 1;cat 1 9 1;cat 2 9 1;nights 4;");
        Check.that("night 4", z.fish(0), 4);
    }

    private static void fishLimits() {
        RooftopCats x = Text.roof("roof;chimney 9;cat 0 1 1;claim 0;nights 30;");
        Check.that("5 + 90 + 4", x.fish(0), 99);
        x.passNights(30);
        Check.that("no more", x.fish(0), 99);
        Check.that("violations", x.violations(), 0);
        // 97 + 3 is one too many, and a feast fills up only as far as 99.
        RooftopCats y = Text.roof("roof;chimney 9;chimney 3;chimney 0;gutter 0 1 9;gutter 1 2 9;cat 0 1 1;claim 0;cat 1 1 1;cat 2 1 1;");
        for (int night = 1; night <= 60; night++) {
            y.passNights(1);
            Check.that("violations in night " + night, y.violations(), 0);
            Check.that("at most 99", y.fish(0) <= 99, true);
        }
        Check.that("99", y.fish(0), 99);
        // Nothing is eaten without fish.
        RooftopCats z = Text.roof("roof;chimney 1;chimney 1;cat 0 1 1;cat 1 1 1;nights 20;");
        Check.that("no fish", z.fish(1), 0);
        Check.that("violations", z.violations(), 0);
    }

    private static void choirs() {
        RooftopCats x = new RooftopCats();
        for (int cat = 0; cat < 3; cat++) {
            Check.that("alone", x.choirOf(cat), 1 << cat);
        }
        for (int cat : Check.outside(3)) {
            Check.noPlace(x, "choirOf " + cat, () -> x.choirOf(cat));
        }
        Check.that("choirs", x.choirCount(), 3);
        Check.that("of three, the first one", x.largestChoir(), 1);
        x.step(2, 4);
        Check.that("all, by narrow gutters too", x.choirOf(2), 7);
        RooftopCats none = Text.roof("roof;chimney 1;chimney 1;gutter 0 1 1;");
        Check.that("no choirs", none.choirCount(), 0);
        Check.that("no choir", none.largestChoir(), 0);

        // Cats 0, 5; 1, 3; 2, 4, 6 (in a chain against the order of the gutters); 7 behind an empty chimney.
        RooftopCats y = Text.roof("roof;repeat 10(chimney 1;);cat 0 9 1;cat 1 9 1;cat 2 9 1;cat 3 9 1;cat 4 9 1;cat 5 9 1;cat 6 9 1;cat 8 9 1;"
                + "gutter 6 4 1;gutter 4 2 1;gutter 3 1 1;gutter 0 5 1;gutter 6 7 9;gutter 7 8 9;");
        int[] due = {33, 10, 84, 10, 84, 33, 84, 128};
        for (int cat = 0; cat < 8; cat++) {
            Check.that("choirOf " + cat, y.choirOf(cat), due[cat]);
        }
        Check.that("choirs", y.choirCount(), 4);
        Check.that("largest", y.largestChoir(), 84);
        y.addGutter(5, 8, 1);
        Check.that("of two with 3 cats, the one with cat 0", y.largestChoir(), 1 | 32 | 128);
        Check.that("choirs", y.choirCount(), 3);
        y.addGutter(1, 0, 1);
        Check.that("grown", y.largestChoir(), 1 | 2 | 8 | 32 | 128);
        y.addGutter(0, 2, 1);
        Check.that("all", y.choirOf(7), 255);
        Check.that("one choir", y.choirCount(), 1);
        // A row of eight, in which each gutter comes too late for the one before.
        RooftopCats row = Text.roof("roof;repeat 8(chimney 1;);cat 0 1 1;cat 1 1 1;cat 2 1 1;cat 3 1 1;cat 4 1 1;cat 5 1 1;cat 6 1 1;cat 7 1 1;"
                + "gutter 6 7 1;gutter 5 6 1;gutter 4 5 1;gutter 3 4 1;gutter 2 3 1;gutter 1 2 1;gutter 0 1 1;");
        Check.that("a row", row.choirOf(0), 255);
        Check.that("a row", row.choirOf(7), 255);
    }

    private static void fullMoon() {
        RooftopCats x = Text.roof("roof;");
        int[] due = {4, 3, 2, 1, 8, 7, 6, 5};
        for (int night = 0; night < 24; night++) {
            Check.that("nightsToFullMoon in " + night, x.nightsToFullMoon(), due[night % 8]);
            x.passNights(1);
        }
    }

    private static void fishAfter() {
        RooftopCats x = new RooftopCats();
        x.step(2, 4);
        for (int nights = 0; nights <= 30; nights++) {
            int[] told = {x.fishAfter(0, nights), x.fishAfter(1, nights), x.fishAfter(2, nights)};
            String before = Look.at(x);
            if (nights > 0) {
                x.passNights(nights);
            }
            for (int cat = 0; cat < 3; cat++) {
                Check.that("fishAfter " + cat + " " + nights, told[cat], x.fish(cat));
            }
            if (nights > 0) {
                x.undo();
            }
            Check.that("undone", Look.at(x), before);
        }
        for (int cat : Check.outside(3)) {
            Check.noPlace(x, "fishAfter of " + cat, () -> x.fishAfter(cat, 31));
        }
        for (int nights : new int[] {-1, 31, Integer.MIN_VALUE, Integer.MAX_VALUE}) {
            Check.badArgument(x, "fishAfter " + nights, () -> x.fishAfter(0, nights));
        }
    }

    private static void riches() {
        RooftopCats x = new RooftopCats();
        Check.that("richest", x.richestCat(), 1);
        Check.that("total", x.totalFish(), 27);
        x.addCat(1, 1, 1);
        Check.that("total", x.totalFish(), 32);
        RooftopCats y = Text.roof("roof;chimney 1;chimney 1;chimney 1;cat 0 1 1;cat 1 1 1;cat 2 1 1;");
        Check.that("of three, the first one", y.richestCat(), 0);
        y.buyTruce(0, 2, 1, 1);
        Check.that("richest", y.richestCat(), 2);
        y.buyTruce(0, 1, 1, 1);
        Check.that("of two, the first one", y.richestCat(), 1);
        RooftopCats poor = Text.roof("roof;chimney 1;chimney 1;cat 0 1 1;cat 1 1 1;nights 6;");
        Check.that("total", poor.totalFish(), 0);
        Check.that("without fish", poor.richestCat(), 0);
        RooftopCats none = Text.roof("roof;");
        Check.that("richest without cats", none.richestCat(), NONE);
        Check.that("total without cats", none.totalFish(), 0);
    }
}
