/**
 * The sentences of "Terms" on the roof, cats, steps, claims, chases, truces, kittens, nights and choirs at their edges:
 * the boundary itself, one step below it and one step above it.
 */
public final class TermsEdgeTest {
    private static final int NONE = RooftopCats.NONE;
    private static final int ALLOWED = 0, NOT_HERE = 1, TOO_NARROW = 2, OCCUPIED = 3, TRESPASS = 4, OWNED = 5, OWNS_ENOUGH = 6;
    private static final int NOT_NEAR = 7, IN_TRUCE = 8, TOO_WEAK = 9;

    /** Ten chimneys, of which cat 0 (girth 1, strength 9) owns the first three in a row and sits on the fourth. */
    private static final String OWNS_THREE = "roof;repeat 10(chimney 3;);gutter 0 1 9;gutter 1 2 9;gutter 2 3 9;gutter 3 4 9;gutter 4 5 9;"
            + "cat 0 1 9;claim 0;step 0 0;claim 0;step 0 1;claim 0;step 0 2;";

    public static void main(String[] args) {
        seats();
        power();
        stepWidth();
        stepThere();
        stepOrder();
        trespassAndTruce();
        claimNumber();
        claimOrder();
        chaseWidth();
        chasePower();
        chaseOrder();
        chaseAndTruce();
        chaseSeats();
        chaseOwner();
        chaseFish();
        truceFish();
        truceLength();
        votes();
        allCatsVote();
        lateCats();
        eightCats();
        kittenSeat();
        supperThirds();
        hunger();
        supperLimit();
        feastLimit();
        feastNights();
        feastSize();
        feastChoir();
        choirLinks();
        Check.end("TermsEdgeTest");
    }

    // ---- the roof and cats

    /** A cat "sits on a chimney, alone". */
    private static void seats() {
        Twin twin = new Twin("roof;chimney 1;chimney 1;chimney 1;gutter 0 1 9;cat 1 1 1;");
        twin.refused("a second cat there", x -> x.addCat(1, 1, 1));
        twin.does("a cat in front of it", 1, x -> x.addCat(0, 1, 1));
        twin.does("a cat behind it", 1, x -> x.addCat(2, 1, 1));
        RooftopCats x = twin.make();
        x.step(0, 0);
        Check.refused(x, "a cat where it went", () -> x.addCat(0, 1, 1));
        Check.that("a cat where it was", x.addCat(1, 1, 1), 1);
        Check.that("the way back", x.whyNoStep(0, 0), OCCUPIED);
    }

    /** "its strength, plus 2 if it sits on a chimney of its own". */
    private static void power() {
        for (int strength = 1; strength <= 9; strength++) {
            RooftopCats x = Text.roof("roof;repeat 3(chimney 1;);gutter 0 1 9;gutter 1 2 9;cat 2 1 9;claim 0;step 0 1;cat 0 1 " + strength + ";");
            Check.that("on no one's", x.power(1), strength);
            x.claim(1);
            Check.that("on its own", x.power(1), strength + 2);
            x.abandon(0);
            Check.that("abandoned", x.power(1), strength);
            x.claim(1);
            x.buyTruce(0, 1, 1, 20);
            x.addChimney(1);
            x.addGutter(0, 2, 9);
            x.step(1, 2);
            Check.that("on another's, while it owns one", x.power(1), strength);
        }
    }

    // ---- steps

    /** "TOO_NARROW, the width is less than the girth". */
    private static void stepWidth() {
        for (int girth = 1; girth <= 9; girth++) {
            for (int width = 1; width <= 9; width++) {
                RooftopCats x = Text.roof("roof;chimney 1;chimney 1;gutter 1 0 " + width + ";cat 0 " + girth + " 1;");
                String what = "girth " + girth + ", width " + width;
                Check.that(what, x.whyNoStep(0, 0), width < girth ? TOO_NARROW : ALLOWED);
                Check.that(what, x.openGutters(0), width < girth ? 0 : 1);
                Check.that(what, x.reachable(0), width < girth ? 1 : 3);
                Check.that(what, x.stepsTo(0, 1), width < girth ? NONE : 1);
                if (width < girth) {
                    Check.refused(x, what, () -> x.step(0, 0));
                } else {
                    Check.that(what, x.step(0, 0), 1);
                }
            }
        }
    }

    /** "NOT_HERE, the gutter does not end at the chimney of the cat": at either end it does. */
    private static void stepThere() {
        RooftopCats x = Text.roof("roof;repeat 4(chimney 1;);gutter 0 1 9;gutter 2 0 9;gutter 1 2 9;gutter 2 3 9;gutter 1 3 9;cat 0 1 1;");
        int[] due = {ALLOWED, ALLOWED, NOT_HERE, NOT_HERE, NOT_HERE};
        for (int gutter = 0; gutter < due.length; gutter++) {
            Check.that("whyNoStep " + gutter, x.whyNoStep(0, gutter), due[gutter]);
        }
        Check.that("from the first end", x.step(0, 0), 1);
        Check.that("from the second end", x.step(0, 0), 0);
        Check.that("from the second end", x.step(0, 1), 2);
        Check.that("from the first end", x.step(0, 1), 0);
    }

    /** "for the first of these reasons that applies": all sets of the four reasons. */
    private static void stepOrder() {
        for (int set = 0; set < 16; set++) {
            boolean far = (set & 1) != 0;
            boolean narrow = (set & 2) != 0;
            boolean occupied = (set & 4) != 0;
            boolean foreign = (set & 8) != 0;
            // Cat 0 owns chimney 1 and goes on to chimney 2, cat 1 may sit on chimney 1, cat 2 is the one that steps.
            RooftopCats x = Text.roof("roof;repeat 4(chimney 1;);gutter 1 2 9;gutter 0 1 " + (narrow ? 4 : 5) + ";cat 1 1 1;"
                    + (foreign ? "claim 0;" : "") + "step 0 0;" + (occupied ? "cat 1 1 1;" : "") + "cat " + (far ? 3 : 0) + " 5 1;");
            int cat = x.catCount() - 1;
            int due = far ? NOT_HERE : narrow ? TOO_NARROW : occupied ? OCCUPIED : foreign ? TRESPASS : ALLOWED;
            Check.that("reason of " + set, x.whyNoStep(cat, 1), due);
            Check.that("openGutters of " + set, x.openGutters(cat), due == ALLOWED ? 2 : 0);
            if (due == ALLOWED) {
                Check.that("step", x.step(cat, 1), 1);
            } else {
                Check.refused(x, "step of " + set, () -> x.step(cat, 1));
            }
        }
    }

    /** "TRESPASS, the other end belongs to another cat without a truce between both": up to the last night of a truce. */
    private static void trespassAndTruce() {
        String roof = "roof;repeat 4(chimney 3;);gutter 0 1 9;gutter 1 2 9;cat 1 1 1;claim 0;step 0 1;cat 0 1 1;cat 3 1 1;";
        RooftopCats x = Text.roof(roof);
        Check.that("without a truce", x.whyNoStep(1, 0), TRESPASS);
        Check.that("the owner itself", x.whyNoStep(0, 1), ALLOWED);
        x.buyTruce(2, 1, 1, 20);
        x.buyTruce(2, 0, 1, 20);
        Check.that("truces with a third cat", x.whyNoStep(1, 0), TRESPASS);
        for (int nights = 1; nights <= 20; nights++) {
            RooftopCats y = Text.roof(roof + "truce " + (nights % 2) + " " + (1 - nights % 2) + " 1 " + nights + ";");
            for (int night = 0; night <= nights; night++) {
                boolean truce = night < nights;
                Check.that("night " + night + " of " + nights, y.whyNoStep(1, 0), truce ? ALLOWED : TRESPASS);
                Check.that("reachable in night " + night + " of " + nights, y.reachable(1), truce ? 3 : 1);
                Check.that("stepsTo in night " + night + " of " + nights, y.stepsTo(1, 1), truce ? 1 : NONE);
                y.passNights(1);
            }
        }
        x.abandon(1);
        Check.that("no one's", x.whyNoStep(1, 0), ALLOWED);
    }

    // ---- claims

    /** "a cat owns at most 4 chimneys", "OWNS_ENOUGH, the cat owns 4 chimneys". */
    private static void claimNumber() {
        RooftopCats x = Text.roof(OWNS_THREE);
        Check.that("owns three", Integer.bitCount(x.ownedChimneys(0)), 3);
        Check.that("a 4th one", x.whyNoClaim(0), ALLOWED);
        Check.that("a 4th one", x.claim(0), 4);
        x.step(0, 3);
        Check.that("a 5th one", x.whyNoClaim(0), OWNS_ENOUGH);
        Check.refused(x, "a 5th one", () -> x.claim(0));
        x.abandon(1);
        Check.that("again a 4th one", x.whyNoClaim(0), ALLOWED);
        Check.that("again a 4th one", x.claim(0), 4);
        x.step(0, 4);
        Check.refused(x, "again a 5th one", () -> x.claim(0));
        Check.that("what another cat owns does not count", x.addCat(9, 1, 1), 1);
        Check.that("its first one", x.claim(1), 1);
    }

    /** "for the first of these reasons that applies". */
    private static void claimOrder() {
        RooftopCats x = Text.roof(OWNS_THREE + "claim 0;cat 4 1 1;claim 1;step 1 4;truce 0 1 1 1;");
        Check.that("its own, and it owns 4", x.whyNoClaim(0), OWNED);
        Check.refused(x, "its own, and it owns 4", () -> x.claim(0));
        x.step(0, 3);
        Check.that("another's, and it owns 4", x.whyNoClaim(0), OWNED);
        Check.refused(x, "another's, and it owns 4", () -> x.claim(0));
        x.abandon(4);
        Check.that("no one's, and it owns 4", x.whyNoClaim(0), OWNS_ENOUGH);
        x.abandon(0);
        Check.that("no one's, and it owns 3", x.whyNoClaim(0), ALLOWED);
    }

    // ---- chases

    /** "no gutter at least as wide as the girth of the cat connects both chimneys": one of several is enough. */
    private static void chaseWidth() {
        for (int girth = 1; girth <= 9; girth++) {
            for (int width = 1; width <= 9; width++) {
                String roof = "roof;repeat 3(chimney 1;);gutter 0 1 " + width + ";gutter 1 2 9;gutter 2 0 9;cat 1 " + girth + " 9;cat 0 9 1;";
                RooftopCats x = Text.roof(roof);
                boolean near = width >= girth;
                Check.that("girth " + girth + ", width " + width, x.whyNoChase(0, 1), near ? ALLOWED : NOT_NEAR);
                Check.that("prey", x.preyOf(0), near ? 2 : 0);
                if (near) {
                    Check.that("chase", x.chase(0, 1), false);
                } else {
                    Check.refused(x, "chase", () -> x.chase(0, 1));
                    RooftopCats y = Text.roof(roof + "gutter 1 0 " + girth + ";");
                    Check.that("a second gutter", y.whyNoChase(0, 1), ALLOWED);
                }
            }
        }
    }

    /** "TOO_WEAK, the power of the cat is not greater than that of the other one". */
    private static void chasePower() {
        for (int strength = 3; strength <= 7; strength++) {
            for (int homes = 0; homes < 4; homes++) {
                boolean home = (homes & 1) != 0;
                boolean otherHome = (homes & 2) != 0;
                RooftopCats x = Text.roof("roof;chimney 1;chimney 1;gutter 0 1 9;cat 0 1 " + strength + ";cat 1 1 5;"
                        + (home ? "claim 0;" : "") + (otherHome ? "claim 1;" : ""));
                int more = strength + (home ? 2 : 0) - 5 - (otherHome ? 2 : 0);
                Check.that("more power by " + more, x.whyNoChase(0, 1), more > 0 ? ALLOWED : TOO_WEAK);
                Check.that("less power by " + more, x.whyNoChase(1, 0), more < 0 ? ALLOWED : TOO_WEAK);
                if (more > 0) {
                    Check.that("chase", x.chase(0, 1), otherHome);
                } else {
                    Check.refused(x, "chase", () -> x.chase(0, 1));
                }
            }
        }
    }

    /** "for the first of these reasons that applies": all sets of the three reasons. */
    private static void chaseOrder() {
        for (int set = 0; set < 8; set++) {
            boolean far = (set & 1) != 0;
            boolean truce = (set & 2) != 0;
            boolean weak = (set & 4) != 0;
            RooftopCats x = Text.roof("roof;repeat 3(chimney 1;);gutter 0 1 " + (far ? 2 : 3) + ";gutter 1 2 9;cat 0 3 5;cat 1 9 " + (weak ? 5 : 4) + ";"
                    + (truce ? "truce 1 0 1 1;" : ""));
            int due = far ? NOT_NEAR : truce ? IN_TRUCE : weak ? TOO_WEAK : ALLOWED;
            Check.that("reason of " + set, x.whyNoChase(0, 1), due);
            Check.that("prey of " + set, x.preyOf(0), due == ALLOWED ? 2 : 0);
            if (due == ALLOWED) {
                Check.that("chase", x.chase(0, 1), false);
            } else {
                Check.refused(x, "chase of " + set, () -> x.chase(0, 1));
            }
        }
    }

    /** "IN_TRUCE, there is a truce between both": for both of them, up to the last night, and not with a third cat. */
    private static void chaseAndTruce() {
        String roof = "roof;repeat 4(chimney 1;);gutter 0 1 9;gutter 0 2 9;cat 0 1 5;cat 1 1 3;cat 2 1 9;";
        for (int nights = 1; nights <= 20; nights++) {
            RooftopCats x = Text.roof(roof + "truce 0 1 1 " + nights + ";");
            for (int night = 0; night <= nights; night++) {
                boolean truce = night < nights;
                Check.that("night " + night + " of " + nights, x.whyNoChase(0, 1), truce ? IN_TRUCE : ALLOWED);
                Check.that("the weaker in night " + night + " of " + nights, x.whyNoChase(1, 0), truce ? IN_TRUCE : TOO_WEAK);
                Check.that("a third cat", x.whyNoChase(2, 0), ALLOWED);
                x.passNights(1);
            }
        }
    }

    /** "Both exchange their chimneys." */
    private static void chaseSeats() {
        RooftopCats x = Text.roof("roof;repeat 10(chimney 1;);gutter 9 3 9;cat 3 1 1;cat 0 1 1;cat 9 1 2;");
        Check.that("no one's", x.chase(2, 0), false);
        Check.that("the cat", x.chimneyOf(2), 3);
        Check.that("the other one", x.chimneyOf(0), 9);
        Check.that("a third one", x.chimneyOf(1), 0);
        Check.that("on the one", x.catOn(3), 2);
        Check.that("on the other", x.catOn(9), 0);
    }

    /** "this belongs to the cat then, or to no cat if the cat owns 4 chimneys already". */
    private static void chaseOwner() {
        // It owns 2 (one abandoned), 3, or 4 chimneys before.
        String[] before = {"abandon 0;", "", "claim 0;"};
        for (int i = 0; i < before.length; i++) {
            RooftopCats x = Text.roof(OWNS_THREE + before[i] + "cat 4 1 1;claim 1;");
            Check.that("owns", Integer.bitCount(x.ownedChimneys(0)), 2 + i);
            Check.that("chase of a cat that owns " + (2 + i), x.chase(0, 1), i < 2);
            Check.that("owner", x.ownerOf(4), i < 2 ? 0 : NONE);
            Check.that("owned", Integer.bitCount(x.ownedChimneys(0)), Math.min(3 + i, 4));
            Check.that("the other one owns nothing", x.ownedChimneys(1), 0);
            Check.that("violations", x.violations(), 0);
        }
        // If the other one does not own it, it stays whose it is: no one's, the cat's own (as its 4th), or a third cat's.
        RooftopCats free = Text.roof(OWNS_THREE + "cat 4 1 1;");
        Check.that("no one's", free.chase(0, 1), false);
        Check.that("no one's", free.ownerOf(4), NONE);
        RooftopCats own = Text.roof(OWNS_THREE + "claim 0;step 0 3;cat 3 1 1;");
        Check.that("its own", own.chase(0, 1), true);
        Check.that("its own", own.ownerOf(3), 0);
        RooftopCats third = Text.roof(OWNS_THREE + "cat 5 1 1;claim 1;step 1 4;truce 1 0 1 1;");
        Check.that("a third cat's", third.ownerOf(5), 1);
        third.addCat(5, 1, 1);
        third.addCat(6, 1, 9);
        third.addGutter(5, 6, 9);
        Check.that("a third cat's", third.chase(3, 2), false);
        Check.that("a third cat's", third.ownerOf(5), 1);
        // What the other one owns elsewhere stays its own, and so does the chimney that the cat leaves.
        RooftopCats rest = Text.roof("roof;repeat 3(chimney 1;);gutter 0 1 9;gutter 1 2 9;cat 0 1 9;claim 0;cat 2 1 1;claim 1;step 1 1;claim 1;");
        Check.that("chase", rest.chase(0, 1), true);
        Check.that("left by the cat", rest.ownerOf(0), 0);
        Check.that("taken", rest.ownerOf(1), 0);
        Check.that("elsewhere", rest.ownerOf(2), 1);
    }

    /** "takes 1 fish from the other one, if that has one and the cat has fewer than 99". */
    private static void chaseFish() {
        // Both get 99 fish, then go hungry for so many nights; the full moon is in night 44.
        String rich = "roof;chimney 9;chimney 9;gutter 0 1 9;cat 0 1 9;cat 1 1 1;claim 0;claim 1;nights 30;nights 10;";
        for (int hungry = 0; hungry <= 3; hungry++) {
            RooftopCats x = Text.roof(rich + "abandon 0;abandon 1;" + (hungry > 0 ? "nights " + hungry + ";" : ""));
            Check.that("before", x.fish(0), 99 - hungry);
            x.chase(0, 1);
            Check.that("the cat that had " + (99 - hungry), x.fish(0), hungry == 0 ? 99 : 100 - hungry);
            Check.that("the other one", x.fish(1), hungry == 0 ? 99 : 98 - hungry);
            Check.that("violations", x.violations(), 0);
        }
        for (int nights = 1; nights <= 7; nights++) {
            // Cat 1 sings alone, but not in the choir that counts: that is the one of cat 2 and cat 3.
            RooftopCats x = Text.roof("roof;repeat 5(chimney 0;);gutter 0 1 9;gutter 2 3 9;gutter 3 4 9;cat 2 1 1;cat 3 1 1;cat 4 1 1;"
                    + "cat 1 1 1;cat 0 1 9;nights " + nights + ";");
            int left = Math.max(0, 5 - nights);
            Check.that("before", x.fish(3), left);
            Check.that("before", x.fish(4), left);
            x.chase(4, 3);
            Check.that("the other one that had " + left, x.fish(3), Math.max(0, left - 1));
            Check.that("the cat", x.fish(4), left == 0 ? 0 : left + 1);
            Check.that("violations", x.violations(), 0);
        }
    }

    // ---- truces

    /** "giving it 1 to 9 fish": of a cat that has one less, as many, one more. */
    private static void truceFish() {
        for (int fish = 1; fish <= 9; fish++) {
            int price = fish;
            for (int have = fish - 1; have <= fish + 1; have++) {
                // Cat 1 is not in the choir that counts, so that it only eats, or only gets 1 fish a night at home.
                int nights = Math.abs(have - 5);
                RooftopCats x = Text.roof("roof;chimney 0;chimney 3;cat 0 1 1;cat 1 1 1;" + (have > 5 ? "claim 1;" : "")
                        + (nights > 0 ? "nights " + nights + ";" : ""));
                Check.that("has", x.fish(1), have);
                int other = x.fish(0);
                if (have < fish) {
                    Check.refused(x, fish + " of " + have, () -> x.buyTruce(1, 0, price, 1));
                } else {
                    Check.that(fish + " of " + have, x.buyTruce(1, 0, price, 1), nights + 1);
                    Check.that("left", x.fish(1), have - fish);
                    Check.that("given", x.fish(0), other + fish);
                }
            }
        }
    }

    /** "in effect until as many nights have passed as were agreed (1 to 20)", in whatever calls they pass. */
    private static void truceLength() {
        String roof = "roof;repeat 2(chimney 6;);cat 0 1 1;cat 1 1 1;claim 0;claim 1;";
        for (int nights = 1; nights <= 20; nights++) {
            RooftopCats x = Text.roof(roof);
            Check.that("first night without", x.buyTruce(0, 1, 1, nights), nights);
            if (nights > 1) {
                x.passNights(nights - 1);
            }
            Check.that("the last night", x.truceNights(0, 1), 1);
            Check.refused(x, "truce in the last night of a truce", () -> x.buyTruce(1, 0, 1, 1));
            x.passNights(1);
            Check.that("behind it", x.truceNights(0, 1), 0);
            Check.that("a new one", x.buyTruce(1, 0, 1, 20), nights + 20);
            Check.that("the new one", x.truceNights(0, 1), 20);
            x.passNights(30);
            Check.that("long behind it", x.truceNights(1, 0), 0);
        }
        RooftopCats last = Text.roof(roof + "repeat 20(nights 30;);repeat 13(nights 30;);nights 8;");
        last.abandon(1);
        last.passNights(1);
        Check.that("behind the last night of all", last.buyTruce(0, 1, 1, 1), 1000);
        Check.that("in effect", last.truceNights(1, 0), 1);
    }

    // ---- kittens

    private static RooftopCats cats(int count, int chimneys, String more) {
        StringBuilder text = new StringBuilder("roof;repeat ").append(chimneys).append("(chimney 1;);");
        for (int cat = 0; cat < count; cat++) {
            text.append("cat ").append(cat).append(" 1 1;");
        }
        return Text.roof(text.append(more).toString());
    }

    /** "admitted if more cats voted for it than against it": all numbers of votes of one to seven cats. */
    private static void votes() {
        for (int cats = 1; cats <= 7; cats++) {
            for (int yes = 0; yes <= cats; yes++) {
                RooftopCats x = cats(cats, 10, "kitten 7 8;");
                boolean admitted = false;
                for (int cat = 0; cat < cats; cat++) {
                    Check.that("waits", x.isKittenWaiting(), true);
                    admitted = x.vote(cat, cat < yes);
                }
                boolean due = yes > cats - yes;
                Check.that(yes + " of " + cats + " for it", admitted, due);
                Check.that("cats", x.catCount(), cats + (due ? 1 : 0));
                Check.that("waits no more", x.isKittenWaiting(), false);
                if (due) {
                    Check.that("girth of cat " + cats, x.girth(cats), 7);
                    Check.that("power", x.power(cats), 8);
                    Check.that("fish", x.fish(cats), 5);
                    Check.that("owns nothing", x.ownedChimneys(cats), 0);
                }
            }
        }
    }

    /** "it waits until all cats have voted": in whatever order. */
    private static void allCatsVote() {
        for (int last = 0; last < 7; last++) {
            RooftopCats x = cats(7, 10, "kitten 1 1;");
            for (int cat = 0; cat < 7; cat++) {
                if (cat != last) {
                    Check.that("not the last one", x.vote(cat, true), false);
                }
            }
            Check.that("six have voted", x.votesFor(), 6);
            Check.that("not the last one", x.hasVoted(last), false);
            Check.that("waits", x.isKittenWaiting(), true);
            Check.that("cats", x.catCount(), 7);
            Check.that("the last one", x.vote(last, false), true);
            Check.that("waits", x.isKittenWaiting(), false);
            Check.that("cats", x.catCount(), 8);
        }
    }

    /** "also those that are added while it waits". */
    private static void lateCats() {
        RooftopCats x = cats(1, 10, "kitten 1 1;cat 1 1 1;");
        Check.that("the first one", x.vote(0, true), false);
        Check.that("waits for the late one", x.isKittenWaiting(), true);
        Check.that("added later still", x.addCat(2, 1, 1), 2);
        Check.that("the late one", x.vote(1, false), false);
        Check.that("waits", x.isKittenWaiting(), true);
        x.undo();
        x.undo();
        Check.that("not added", x.catCount(), 2);
        Check.that("the late one is the last", x.vote(1, true), true);
        Check.that("no more", x.isKittenWaiting(), false);
        Check.that("cats", x.catCount(), 3);
    }

    /** "there are fewer than 8 cats": 7 of them, or 8. "In any case it does not wait any more." */
    private static void eightCats() {
        RooftopCats seven = cats(6, 10, "kitten 1 1;cat 6 1 1;");
        RooftopCats eight = cats(7, 10, "kitten 1 1;cat 7 1 1;");
        for (int cat = 0; cat < 6; cat++) {
            seven.vote(cat, true);
            eight.vote(cat, true);
        }
        Check.that("8th cat", seven.vote(6, true), true);
        Check.that("cats", seven.catCount(), 8);
        Check.that("not the last one", eight.vote(6, true), false);
        Check.that("9th cat", eight.vote(7, true), false);
        Check.that("cats", eight.catCount(), 8);
        Check.that("waits", seven.isKittenWaiting() || eight.isKittenWaiting(), false);
        Check.that("votes", seven.votesFor() + eight.votesFor(), 0);
    }

    /** "there is a chimney without a cat; it sits on the warmest one of these, of several on ... the smallest number". */
    private static void kittenSeat() {
        String[] chimneys = {"", "chimney 0;", "chimney 9;", "chimney 0;chimney 0;", "chimney 4;chimney 5;", "chimney 5;chimney 4;",
            "chimney 4;chimney 5;chimney 5;", "chimney 5;chimney 9;chimney 8;chimney 9;"};
        int[] due = {NONE, 2, 2, 2, 3, 2, 3, 3};
        for (int i = 0; i < chimneys.length; i++) {
            RooftopCats x = Text.roof("roof;chimney 9;chimney 9;" + chimneys[i] + "cat 0 1 1;cat 1 1 1;kitten 1 1;yes 1;");
            Check.that("admitted to " + chimneys[i], x.vote(0, true), due[i] != NONE);
            Check.that("cats", x.catCount(), due[i] == NONE ? 2 : 3);
            Check.that("waits", x.isKittenWaiting(), false);
            if (due[i] != NONE) {
                Check.that("seat in " + chimneys[i], x.chimneyOf(2), due[i]);
            }
        }
    }

    // ---- nights

    /** "a third of its warmth, rounded down", and 1 fish eaten by "each other one". */
    private static void supperThirds() {
        int[] thirds = {0, 0, 0, 1, 1, 1, 2, 2, 2, 3};
        for (int warmth = 0; warmth <= 9; warmth++) {
            RooftopCats x = Text.roof("roof;chimney 1;chimney " + warmth + ";chimney 9;gutter 1 2 9;cat 0 1 1;cat 1 1 1;claim 1;");
            Check.that("night", x.passNights(1), 1);
            Check.that("at home by warmth " + warmth, x.fish(1), 5 + thirds[warmth]);
            Check.that("night", x.passNights(2), 3);
            Check.that("at home by warmth " + warmth, x.fish(1), 5 + 3 * thirds[warmth]);
            x.step(1, 0);
            x.passNights(1);
            Check.that("away from home", x.fish(1), 4 + 3 * thirds[warmth]);
        }
    }

    /** "eats 1 fish if it has one": down to 0, and no further. */
    private static void hunger() {
        RooftopCats x = Text.roof("roof;chimney 9;chimney 9;cat 0 1 1;cat 1 1 1;");
        int[] due = {4, 3, 2, 1, 0, 0, 0};
        for (int i = 0; i < due.length; i++) {
            Check.that("fishAfter", x.fishAfter(1, 1), due[i]);
            x.passNights(1);
            Check.that("fish in night " + (i + 1), x.fish(1), due[i]);
            Check.that("violations", x.violations(), 0);
        }
    }

    /** "No cat gets more fish than with which it has 99": from suppers of 0 to 3 fish, below, at and above 99. */
    private static void supperLimit() {
        for (int warmth = 3; warmth <= 9; warmth += 3) {
            for (int hungry = 1; hungry <= 6; hungry++) {
                RooftopCats x = Text.roof("roof;chimney 0;chimney " + warmth + ";cat 0 1 1;cat 1 1 1;claim 1;repeat 4(nights 30;);");
                Check.that("full", x.fish(1), 99);
                x.abandon(1);
                x.passNights(hungry);
                x.claim(1);
                int due = Math.min(99, 99 - hungry + warmth / 3);
                Check.that("fishAfter", x.fishAfter(1, 1), due);
                x.passNights(1);
                Check.that("fish from " + (99 - hungry), x.fish(1), due);
                Check.that("violations", x.violations(), 0);
                Check.that("full again", x.fishAfter(1, 10), 99);
            }
        }
    }

    /** The same for a feast of two fish in night 44, which follows on the meal of that night. */
    private static void feastLimit() {
        String rich = "roof;chimney 9;chimney 9;gutter 0 1 1;cat 0 9 1;cat 1 9 1;claim 0;claim 1;nights 30;nights 10;";
        for (int hungry = 0; hungry <= 3; hungry++) {
            RooftopCats x = Text.roof(rich + (hungry < 3 ? "nights " + (3 - hungry) + ";" : "") + "abandon 1;" + (hungry > 0 ? "nights " + hungry + ";" : ""));
            Check.that("night", x.night(), 43);
            Check.that("at home", x.fish(0), 99);
            Check.that("away", x.fish(1), 99 - hungry);
            int due = Math.min(99, 99 - hungry - 1 + 2);
            Check.that("fishAfter", x.fishAfter(1, 1), due);
            x.passNights(1);
            Check.that("at home", x.fish(0), 99);
            Check.that("away, from " + (99 - hungry), x.fish(1), due);
            Check.that("violations", x.violations(), 0);
        }
    }

    /** "the moon is full in the phase 4": the night before and the night behind it are none; and it eats before it sings. */
    private static void feastNights() {
        RooftopCats x = Text.roof("roof;chimney 0;cat 0 1 1;");
        int fish = 5;
        for (int night = 1; night <= 999; night++) {
            int due = Math.max(0, fish - 1) + (night % 8 == 4 ? 1 : 0);
            Check.that("fishAfter to night " + night, x.fishAfter(0, 1), due);
            x.passNights(1);
            Check.that("fish in night " + night, x.fish(0), due);
            fish = due;
        }
        Check.that("violations", x.violations(), 0);
        // In one call, nights 4, 12, 20 and 28 are feasts: the fish of the last one are eaten in night 29.
        Check.that("nights in one call", Text.roof("roof;chimney 0;cat 0 1 1;nights 28;").fish(0), 1);
        Check.that("nights in one call", Text.roof("roof;chimney 0;cat 0 1 1;nights 29;").fish(0), 0);
        Check.that("nights in one call", Text.roof("roof;chimney 0;cat 0 1 1;claim 0;nights 30;").fish(0), 5 + 4);
        Check.that("nights in one call", Text.roof("roof;chimney 0;cat 0 1 1;claim 0;nights 27;").fish(0), 5 + 3);
    }

    /** "as many fish as the choir has cats": one to eight. */
    private static void feastSize() {
        for (int size = 1; size <= 8; size++) {
            StringBuilder text = new StringBuilder();
            for (int cat = 1; cat < size; cat++) {
                text.append("gutter ").append(cat).append(' ').append(cat - 1).append(" 1;");
            }
            RooftopCats x = cats(8, 8, text.append("nights 4;").toString());
            for (int cat = 0; cat < 8; cat++) {
                Check.that("cat " + cat + " by a choir of " + size, x.fish(cat), cat < size ? 1 + size : 1);
            }
        }
    }

    /** "Of several largest choirs, the one with the cat with the smallest number counts." */
    private static void feastChoir() {
        String[] gutters = {"", "gutter 2 3 1;", "gutter 2 3 1;gutter 1 4 1;", "gutter 2 3 1;gutter 1 4 1;gutter 3 5 1;",
            "gutter 2 3 1;gutter 1 4 1;gutter 3 5 1;gutter 4 6 1;", "gutter 7 6 1;gutter 5 4 1;", "gutter 7 0 1;gutter 1 2 1;"};
        int[] due = {1, 1 << 2 | 1 << 3, 1 << 1 | 1 << 4, 1 << 2 | 1 << 3 | 1 << 5, 1 << 1 | 1 << 4 | 1 << 6, 1 << 5 | 1 << 4, 1 << 7 | 1};
        for (int i = 0; i < gutters.length; i++) {
            RooftopCats x = cats(8, 8, gutters[i]);
            Check.that("largestChoir by " + gutters[i], x.largestChoir(), due[i]);
            x.passNights(4);
            for (int cat = 0; cat < 8; cat++) {
                boolean sings = (due[i] >> cat & 1) != 0;
                Check.that("cat " + cat + " by " + gutters[i], x.fish(cat), sings ? 1 + Integer.bitCount(due[i]) : 1);
            }
        }
    }

    /** "cats are connected if a gutter connects their chimneys, and if both are connected with the same cat". */
    private static void choirLinks() {
        RooftopCats x = Text.roof("roof;repeat 5(chimney 1;);cat 0 9 1;cat 2 9 1;cat 4 9 1;gutter 0 1 9;gutter 1 2 9;gutter 2 3 9;gutter 3 4 9;");
        Check.that("without others", x.choirOf(0), 1);
        Check.that("three choirs", x.choirCount(), 3);
        x.addCat(1, 1, 1);
        Check.that("by one cat between", x.choirOf(0), 1 | 2 | 8);
        Check.that("not the third one", x.choirOf(2), 4);
        Check.that("two choirs", x.choirCount(), 2);
        x.addCat(3, 1, 1);
        Check.that("in a row", x.choirOf(2), 31);
        Check.that("one choir", x.choirCount(), 1);
        x.undo();
        x.addGutter(4, 0, 1);
        Check.that("by a gutter too narrow for both", x.choirOf(2), 15);
        // An empty chimney does not connect: neither the first nor the last one.
        for (int empty = 0; empty < 3; empty++) {
            int one = (empty + 1) % 3;
            int other = (empty + 2) % 3;
            RooftopCats y = Text.roof("roof;repeat 3(chimney 1;);cat " + one + " 1 1;cat " + other + " 1 1;gutter " + empty + " " + one + " 9;gutter "
                    + other + " " + empty + " 9;");
            Check.that("around " + empty, y.choirOf(0), 1);
            Check.that("choirs around " + empty, y.choirCount(), 2);
            y.addGutter(one, other, 1);
            Check.that("connected beside " + empty, y.choirOf(1), 3);
            Check.that("choirs beside " + empty, y.choirCount(), 1);
        }
    }
}
