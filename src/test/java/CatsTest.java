/** Promises 8 to 12 and 34 to 46 (what cats do, and why not). */
public final class CatsTest {
    private static final int NONE = RooftopCats.NONE;
    private static final int ALLOWED = 0, NOT_HERE = 1, TOO_NARROW = 2, OCCUPIED = 3, TRESPASS = 4, OWNED = 5, OWNS_ENOUGH = 6;
    private static final int NOT_NEAR = 7, IN_TRUCE = 8, TOO_WEAK = 9;

    public static void main(String[] args) {
        numbers();
        powerAndProperty();
        step();
        stepRefusals();
        trespass();
        claim();
        abandon();
        chase();
        chaseRefusals();
        chaseProperty();
        chaseFish();
        buyTruce();
        truceRefusals();
        truceNights();
        reachable();
        openGutters();
        preyOf();
        Check.end("CatsTest");
    }

    /** Every call with the number of a cat refuses a wrong one. */
    private static void numbers() {
        RooftopCats x = new RooftopCats();
        for (int cat : Check.outside(3)) {
            Check.noPlace(x, "girth of " + cat, () -> x.girth(cat));
            Check.noPlace(x, "power of " + cat, () -> x.power(cat));
            Check.noPlace(x, "fish of " + cat, () -> x.fish(cat));
            Check.noPlace(x, "chimneyOf " + cat, () -> x.chimneyOf(cat));
            Check.noPlace(x, "ownedChimneys of " + cat, () -> x.ownedChimneys(cat));
            Check.noPlace(x, "truceNights of " + cat, () -> x.truceNights(cat, 0));
            Check.noPlace(x, "truceNights with " + cat, () -> x.truceNights(0, cat));
            Check.noPlace(x, "truceNights of both " + cat, () -> x.truceNights(cat, cat));
            Check.noPlace(x, "reachable of " + cat, () -> x.reachable(cat));
            Check.noPlace(x, "stepsTo of " + cat, () -> x.stepsTo(cat, 0));
            Check.noPlace(x, "openGutters of " + cat, () -> x.openGutters(cat));
            Check.noPlace(x, "whyNoStep of " + cat, () -> x.whyNoStep(cat, 0));
            Check.noPlace(x, "whyNoClaim of " + cat, () -> x.whyNoClaim(cat));
            Check.noPlace(x, "whyNoChase of " + cat, () -> x.whyNoChase(cat, 0));
            Check.noPlace(x, "whyNoChase at " + cat, () -> x.whyNoChase(0, cat));
            Check.noPlace(x, "whyNoChase of both " + cat, () -> x.whyNoChase(cat, cat));
            Check.noPlace(x, "preyOf " + cat, () -> x.preyOf(cat));
            Check.noPlace(x, "step of " + cat, () -> x.step(cat, 0));
            Check.noPlace(x, "claim of " + cat, () -> x.claim(cat));
            Check.noPlace(x, "chase of " + cat, () -> x.chase(cat, 0));
            Check.noPlace(x, "chase at " + cat, () -> x.chase(0, cat));
            Check.noPlace(x, "chase of both " + cat, () -> x.chase(cat, cat));
            Check.noPlace(x, "buyTruce of " + cat, () -> x.buyTruce(cat, 0, 1, 1));
            Check.noPlace(x, "buyTruce with " + cat, () -> x.buyTruce(0, cat, 0, 0));
            Check.noPlace(x, "buyTruce of both " + cat, () -> x.buyTruce(cat, cat, 1, 1));
        }
        for (int number : Check.outside(5)) {
            Check.noPlace(x, "stepsTo " + number, () -> x.stepsTo(0, number));
            Check.noPlace(x, "whyNoStep through " + number, () -> x.whyNoStep(0, number));
            Check.noPlace(x, "step through " + number, () -> x.step(0, number));
            Check.noPlace(x, "abandon " + number, () -> x.abandon(number));
        }
        for (int cat = 0; cat < 3; cat++) {
            int same = cat;
            Check.badArgument(x, "truceNights with itself", () -> x.truceNights(same, same));
            Check.badArgument(x, "whyNoChase of itself", () -> x.whyNoChase(same, same));
            Check.badArgument(x, "chase of itself", () -> x.chase(same, same));
            Check.badArgument(x, "buyTruce with itself", () -> x.buyTruce(same, same, 1, 1));
        }
    }

    private static void powerAndProperty() {
        RooftopCats x = new RooftopCats();
        int[] girth = {4, 3, 6};
        int[] power = {7, 8, 3};
        int[] fish = {11, 16, 0};
        int[] chimney = {0, 2, 4};
        int[] owned = {1, 4, 0};
        for (int cat = 0; cat < 3; cat++) {
            Check.that("girth " + cat, x.girth(cat), girth[cat]);
            Check.that("power " + cat, x.power(cat), power[cat]);
            Check.that("fish " + cat, x.fish(cat), fish[cat]);
            Check.that("chimneyOf " + cat, x.chimneyOf(cat), chimney[cat]);
            Check.that("ownedChimneys " + cat, x.ownedChimneys(cat), owned[cat]);
        }
        x.step(0, 0);
        Check.that("power away from home", x.power(0), 5);
        Check.that("owned away from home", x.ownedChimneys(0), 1);
        x.claim(0);
        Check.that("power at home", x.power(0), 7);
        Check.that("two owned", x.ownedChimneys(0), 3);
        // On the chimney of another cat there is no more power.
        RooftopCats y = Text.roof("roof;chimney 1;chimney 1;chimney 1;gutter 0 1 9;gutter 1 2 9;cat 0 1 9;claim 0;step 0 0;step 0 1;"
                + "cat 1 1 4;truce 1 0 1 1;step 1 0;");
        Check.that("power on a chimney of another cat", y.power(1), 4);
    }

    private static void step() {
        RooftopCats x = new RooftopCats();
        Check.that("there", x.step(0, 0), 1);
        Check.that("chimney", x.chimneyOf(0), 1);
        Check.that("and back", x.step(0, 0), 0);
        Check.that("undo count", x.undoCount(), 2);
        Check.that("against the order of the ends", x.step(2, 4), 3);
        Check.that("as wide as the cat", Text.roof("roof;chimney 1;chimney 1;gutter 0 1 9;cat 1 9 1;").step(0, 0), 0);
        Check.that("fish stay", x.fish(2), 0);
    }

    private static void stepRefusals() {
        RooftopCats x = new RooftopCats();
        int[][] due = {
            {ALLOWED, NOT_HERE, NOT_HERE, TOO_NARROW, NOT_HERE},
            {NOT_HERE, ALLOWED, ALLOWED, NOT_HERE, NOT_HERE},
            {NOT_HERE, NOT_HERE, NOT_HERE, NOT_HERE, ALLOWED},
        };
        for (int cat = 0; cat < 3; cat++) {
            for (int gutter = 0; gutter < 5; gutter++) {
                Check.that("whyNoStep " + cat + " " + gutter, x.whyNoStep(cat, gutter), due[cat][gutter]);
                if (due[cat][gutter] != ALLOWED) {
                    int walker = cat;
                    int way = gutter;
                    Check.refused(x, "step", () -> x.step(walker, way));
                }
            }
        }
        // All reasons at once: the first one counts.
        RooftopCats y = Text.roof("roof;chimney 1;chimney 1;chimney 1;gutter 0 1 1;gutter 0 1 5;gutter 1 2 9;cat 0 5 1;cat 1 1 1;claim 1;");
        Check.that("narrow, occupied, owned", y.whyNoStep(0, 0), TOO_NARROW);
        Check.that("occupied, owned", y.whyNoStep(0, 1), OCCUPIED);
        Check.that("not here, narrow", y.whyNoStep(0, 2), NOT_HERE);
        y.step(1, 2);
        Check.that("owned", y.whyNoStep(0, 1), TRESPASS);
        Check.that("narrow, owned", y.whyNoStep(0, 0), TOO_NARROW);
        Check.refused(y, "step onto a chimney of another cat", () -> y.step(0, 1));
        y.buyTruce(1, 0, 1, 1);
        Check.that("in truce", y.whyNoStep(0, 1), ALLOWED);
        Check.that("step in truce", y.step(0, 1), 1);
    }

    private static void trespass() {
        RooftopCats x = Text.roof("roof;chimney 1;chimney 1;chimney 1;gutter 0 1 9;gutter 1 2 9;cat 1 1 1;claim 0;step 0 1;cat 0 1 1;"
                + "truce 0 1 2 3;");
        Check.that("truce", x.whyNoStep(1, 0), ALLOWED);
        x.passNights(2);
        Check.that("last night of the truce", x.whyNoStep(1, 0), ALLOWED);
        x.passNights(1);
        Check.that("the truce is over", x.whyNoStep(1, 0), TRESPASS);
        Check.that("the owner itself", x.whyNoStep(0, 1), ALLOWED);
        x.abandon(1);
        Check.that("no owner", x.whyNoStep(1, 0), ALLOWED);
        // A truce with another cat than the owner is of no use.
        RooftopCats y = Text.roof("roof;repeat 5(chimney 1;);gutter 0 1 9;gutter 1 2 9;cat 1 1 1;claim 0;step 0 1;cat 0 1 1;cat 3 1 1;"
                + "truce 1 2 1 9;truce 0 2 1 9;");
        Check.that("truce with a third cat", y.whyNoStep(1, 0), TRESPASS);
    }

    private static void claim() {
        RooftopCats x = new RooftopCats();
        Check.that("own", x.whyNoClaim(0), OWNED);
        Check.refused(x, "claim of the own chimney", () -> x.claim(0));
        Check.that("free", x.whyNoClaim(2), ALLOWED);
        Check.that("claim", x.claim(2), 1);
        Check.that("owner", x.ownerOf(4), 2);
        Check.that("claimed", x.whyNoClaim(2), OWNED);

        RooftopCats y = Text.roof("roof;repeat 10(chimney 1;);gutter 0 1 9;gutter 1 2 9;gutter 2 3 9;gutter 3 4 9;gutter 4 5 9;cat 0 1 1;");
        for (int i = 0; i < 4; i++) {
            Check.that("allowed", y.whyNoClaim(0), ALLOWED);
            Check.that("claim", y.claim(0), i + 1);
            Check.that("step", y.step(0, i), i + 1);
        }
        Check.that("enough", y.whyNoClaim(0), OWNS_ENOUGH);
        Check.refused(y, "5th claim", () -> y.claim(0));
        y.step(0, 3);
        Check.that("owned comes before enough", y.whyNoClaim(0), OWNED);
        y.abandon(0);
        y.step(0, 3);
        Check.that("room again", y.whyNoClaim(0), ALLOWED);
        Check.that("claim", y.claim(0), 4);
        Check.that("owned", y.ownedChimneys(0), 30);
        // On a chimney of another cat.
        RooftopCats z = Text.roof("roof;chimney 1;chimney 1;chimney 1;gutter 0 1 9;gutter 1 2 9;cat 1 1 1;claim 0;cat 0 1 1;truce 0 1 1 1;"
                + "step 0 1;step 1 0;");
        Check.that("of another cat", z.whyNoClaim(1), OWNED);
        Check.refused(z, "claim of a chimney of another cat", () -> z.claim(1));
    }

    private static void abandon() {
        RooftopCats x = new RooftopCats();
        Check.refused(x, "abandon of no one's", () -> x.abandon(1));
        Check.that("abandon", x.abandon(2), 1);
        Check.that("owner", x.ownerOf(2), NONE);
        Check.that("owned", x.ownedChimneys(1), 0);
        Check.that("power", x.power(1), 6);
        Check.refused(x, "abandon again", () -> x.abandon(2));
        Check.that("the other one", x.abandon(0), 0);
        Check.that("undo count", x.undoCount(), 2);
    }

    private static void chase() {
        RooftopCats x = Text.roof("roof;chimney 1;chimney 1;gutter 0 1 3;cat 0 3 6;cat 1 9 5;");
        Check.that("no one's chimney", x.chase(0, 1), false);
        Check.that("cat", x.chimneyOf(0), 1);
        Check.that("target", x.chimneyOf(1), 0);
        Check.that("fish", x.fish(0), 6);
        Check.that("fish of the target", x.fish(1), 4);
        Check.that("no owner", x.ownerOf(1), NONE);
        Check.that("back", x.chase(0, 1), false);
        Check.that("cat", x.chimneyOf(0), 0);
        Check.that("undo count", x.undoCount(), 3);
    }

    private static void chaseRefusals() {
        String roof = "roof;repeat 5(chimney 1;);gutter 0 1 3;gutter 1 2 9;gutter 1 0 4;cat 0 4 6;cat 1 5 5;cat 2 1 7;";
        RooftopCats x = Text.roof(roof);
        Check.that("through the second gutter", x.whyNoChase(0, 1), ALLOWED);
        Check.that("too fat for both", x.whyNoChase(1, 0), NOT_NEAR);
        Check.that("not connected", x.whyNoChase(2, 0), NOT_NEAR);
        Check.that("stronger", x.whyNoChase(2, 1), ALLOWED);
        Check.that("weaker", x.whyNoChase(1, 2), TOO_WEAK);
        Check.refused(x, "chase of a far one", () -> x.chase(2, 0));
        Check.refused(x, "chase of a stronger one", () -> x.chase(1, 2));
        x.claim(1);
        Check.that("as strong at home", x.whyNoChase(2, 1), TOO_WEAK);
        Check.that("as strong the other way", x.whyNoChase(1, 2), TOO_WEAK);
        x.buyTruce(1, 2, 1, 2);
        Check.that("truce comes before weakness", x.whyNoChase(2, 1), IN_TRUCE);
        Check.that("for both", x.whyNoChase(1, 2), IN_TRUCE);
        Check.refused(x, "chase in truce", () -> x.chase(1, 2));
        x.buyTruce(1, 0, 1, 2);
        Check.that("far comes before truce", x.whyNoChase(1, 0), NOT_NEAR);
        x.passNights(1);
        Check.that("still in truce", x.whyNoChase(1, 2), IN_TRUCE);
        x.passNights(1);
        Check.that("no truce any more", x.whyNoChase(1, 2), TOO_WEAK);
        RooftopCats y = Text.roof("roof;chimney 1;chimney 1;gutter 0 1 9;cat 0 1 5;cat 1 1 5;");
        Check.that("equal", y.whyNoChase(0, 1), TOO_WEAK);
        y.claim(0);
        Check.that("2 more at home", y.whyNoChase(0, 1), ALLOWED);
    }

    private static void chaseProperty() {
        String row = "roof;repeat 8(chimney 3;);gutter 0 1 9;gutter 1 2 9;gutter 2 3 9;gutter 3 4 9;gutter 4 5 9;cat 0 1 9;";
        String three = row + "claim 0;step 0 0;claim 0;step 0 1;claim 0;step 0 2;";
        RooftopCats x = Text.roof(three + "cat 4 1 1;claim 1;");
        Check.that("the 4th chimney", x.chase(0, 1), true);
        Check.that("owner", x.ownerOf(4), 0);
        Check.that("owned by the other one", x.ownedChimneys(1), 0);

        RooftopCats y = Text.roof(three + "claim 0;cat 4 1 1;claim 1;");
        Check.that("no 5th chimney", y.chase(0, 1), false);
        Check.that("no owner", y.ownerOf(4), NONE);
        Check.that("owned", y.ownedChimneys(0), 15);
        Check.that("on it", y.chimneyOf(0), 4);
        Check.that("the chimney of the cat stays its own", y.ownerOf(3), 0);
        Check.that("violations", y.violations(), 0);

        // The target sits on a chimney of the cat: this belongs to the cat before and afterwards.
        RooftopCats own = Text.roof(three + "claim 0;step 0 3;cat 3 1 1;");
        Check.that("the own chimney", own.chase(0, 1), true);
        Check.that("still its own", own.ownerOf(3), 0);
        Check.that("owned", own.ownedChimneys(0), 15);

        // The target sits on a chimney of a third cat, which keeps it.
        RooftopCats third = Text.roof("roof;repeat 4(chimney 3;);gutter 0 1 9;gutter 1 2 9;gutter 2 3 9;"
                + "cat 2 1 1;claim 0;step 0 2;cat 2 1 1;cat 1 1 9;");
        Check.that("of a third cat", third.chase(2, 1), false);
        Check.that("it keeps it", third.ownerOf(2), 0);

        // The target comes onto a chimney of the cat, without a truce.
        RooftopCats home = Text.roof("roof;chimney 1;chimney 1;gutter 0 1 9;cat 0 1 9;claim 0;cat 1 1 1;claim 1;");
        Check.that("both own theirs", home.chase(0, 1), true);
        Check.that("owned", home.ownedChimneys(0), 3);
        Check.that("on the chimney of the cat", home.chimneyOf(1), 0);
    }

    private static void chaseFish() {
        RooftopCats x = Text.roof("roof;chimney 1;chimney 1;gutter 0 1 9;cat 0 1 9;cat 1 1 1;truce 1 0 5 1;nights 1;");
        x.passNights(1);
        int fish = x.fish(0);
        Check.that("no fish", x.fish(1), 0);
        x.chase(0, 1);
        Check.that("nothing to take", x.fish(0), fish);
        Check.that("nothing is left", x.fish(1), 0);
        Check.that("violations", x.violations(), 0);

        RooftopCats one = Text.roof("roof;chimney 1;chimney 1;chimney 1;gutter 0 1 9;cat 0 1 9;cat 1 1 1;cat 2 1 1;truce 1 2 4 1;");
        one.chase(0, 1);
        Check.that("its last fish is taken", one.fish(0), 6);
        Check.that("nothing is left", one.fish(1), 0);

        RooftopCats y = Text.roof("roof;chimney 9;chimney 9;gutter 0 1 9;cat 0 1 9;claim 0;cat 1 1 1;claim 1;repeat 2(nights 30;);");
        Check.that("99 fish", y.fish(0), 99);
        Check.that("99 fish", y.fish(1), 99);
        y.chase(0, 1);
        Check.that("no more than 99", y.fish(0), 99);
        Check.that("nothing taken", y.fish(1), 99);
        y.passNights(1);
        Check.that("one less", y.fish(1), 98);
        y.undo();
        y.undo();
        y.abandon(0);
        y.passNights(1);
        Check.that("98 fish", y.fish(0), 98);
        y.claim(0);
        y.chase(0, 1);
        Check.that("the 99th", y.fish(0), 99);
        Check.that("taken", y.fish(1), 98);
    }

    private static void buyTruce() {
        RooftopCats x = new RooftopCats();
        Check.that("first night without", x.buyTruce(0, 1, 9, 20), 23);
        Check.that("fish", x.fish(0), 2);
        Check.that("fish of the other one", x.fish(1), 25);
        Check.that("truce", x.truceNights(0, 1), 20);
        Check.that("truce of the other one", x.truceNights(1, 0), 20);
        Check.that("no other truce", x.truceNights(0, 2), 0);
        Check.that("the earlier truce", x.truceNights(2, 1), 3);
        Check.that("violations", x.violations(), 0);
        Check.that("all fish of the cat", x.buyTruce(0, 2, 2, 1), 4);
        Check.that("no fish", x.fish(0), 0);
        for (int fish : new int[] {0, 10, -1, Integer.MIN_VALUE, Integer.MAX_VALUE}) {
            Check.badArgument(x, "buyTruce for " + fish, () -> x.buyTruce(0, 1, fish, 1));
        }
        for (int nights : new int[] {0, 21, -1, Integer.MIN_VALUE, Integer.MAX_VALUE}) {
            Check.badArgument(x, "buyTruce for nights " + nights, () -> x.buyTruce(0, 1, 1, nights));
        }
        // The last night of all: the truce ends behind it.
        RooftopCats y = Text.roof("roof;chimney 1;chimney 1;cat 0 1 1;cat 1 1 1;repeat 20(nights 30;);repeat 13(nights 30;);nights 9;");
        Check.refused(y, "without fish", () -> y.buyTruce(0, 1, 9, 20));
        RooftopCats z = Text.roof("roof;chimney 9;chimney 1;cat 0 1 1;claim 0;cat 1 1 1;repeat 20(nights 30;);repeat 13(nights 30;);nights 9;");
        Check.that("behind the last night", z.buyTruce(0, 1, 9, 20), 1019);
        Check.that("nights", z.truceNights(1, 0), 20);
    }

    private static void truceRefusals() {
        RooftopCats x = new RooftopCats();
        Check.refused(x, "in truce", () -> x.buyTruce(1, 2, 1, 1));
        Check.refused(x, "no fish", () -> x.buyTruce(2, 0, 1, 1));
        x.passNights(2);
        Check.refused(x, "still in truce", () -> x.buyTruce(1, 2, 1, 1));
        x.passNights(1);
        Check.that("again", x.buyTruce(1, 2, 1, 1), 7);
        // The other one would have 99, or more.
        RooftopCats y = Text.roof("roof;chimney 9;chimney 9;cat 0 1 1;cat 1 1 1;claim 0;claim 1;nights 30;nights 5;abandon 0;nights 5;");
        Check.that("fish", y.fish(0), 95);
        Check.that("fish", y.fish(1), 99);
        Check.refused(y, "100", () -> y.buyTruce(1, 0, 5, 1));
        Check.refused(y, "100 the other way", () -> y.buyTruce(0, 1, 1, 1));
        Check.that("99", y.buyTruce(1, 0, 4, 1), 41);
        Check.that("fish", y.fish(0), 99);
        Check.that("fish", y.fish(1), 95);
        // One fish less than the price.
        RooftopCats z = Text.roof("roof;chimney 9;chimney 9;cat 0 1 1;cat 1 1 1;");
        Check.refused(z, "6 of 5", () -> z.buyTruce(0, 1, 6, 1));
        Check.that("5 of 5", z.buyTruce(0, 1, 5, 1), 1);
    }

    private static void truceNights() {
        RooftopCats x = new RooftopCats();
        for (int left = 3; left >= 0; left--) {
            Check.that("nights left", x.truceNights(1, 2), left);
            Check.that("nights left", x.truceNights(2, 1), left);
            Check.that("no truce", x.truceNights(0, 1), 0);
            x.passNights(1);
        }
        Check.that("long over", x.truceNights(1, 2), 0);
    }

    private static void reachable() {
        RooftopCats x = new RooftopCats();
        int[] reach = {3, 14, 24};
        int[][] steps = {
            {0, 1, NONE, NONE, NONE},
            {NONE, 1, 0, 1, NONE},
            {NONE, NONE, NONE, 1, 0},
        };
        for (int cat = 0; cat < 3; cat++) {
            Check.that("reachable " + cat, x.reachable(cat), reach[cat]);
            for (int chimney = 0; chimney < 5; chimney++) {
                Check.that("stepsTo " + cat + " " + chimney, x.stepsTo(cat, chimney), steps[cat][chimney]);
            }
        }
        // Present chimney of another cat; the shorter way is too narrow; a cat in the way.
        RooftopCats y = Text.roof("roof;repeat 10(chimney 1;);gutter 8 9 4;gutter 7 8 4;gutter 6 7 4;gutter 5 6 4;gutter 4 5 4;"
                + "gutter 3 4 4;gutter 2 3 4;gutter 1 2 4;gutter 0 1 4;gutter 0 9 3;cat 0 4 1;");
        Check.that("all", y.reachable(0), 1023);
        Check.that("nine steps", y.stepsTo(0, 9), 9);
        Check.that("eight steps", y.stepsTo(0, 8), 8);
        y.addCat(5, 1, 1);
        Check.that("in the way", y.reachable(0), 31);
        Check.that("behind it", y.stepsTo(0, 6), NONE);
        Check.that("on it", y.stepsTo(0, 5), NONE);
        Check.that("the narrow way", y.stepsTo(1, 9), 4);
        Check.that("round the ring", y.reachable(1), 1022);
        y.claim(1);
        y.step(1, 3);
        Check.that("a chimney of another cat", y.reachable(0), 31);
        Check.that("a chimney of another cat", y.stepsTo(0, 5), NONE);
        y.buyTruce(1, 0, 1, 1);
        Check.that("with a truce", y.stepsTo(0, 5), 5);
        y.step(0, 8);
        y.addCat(0, 9, 9);
        Check.that("too fat for a step", y.reachable(2), 1);
        Check.that("is there", y.stepsTo(2, 0), 0);
        // It leaves a chimney of another cat and does not come back; the present one counts all the same.
        RooftopCats z = Text.roof("roof;repeat 4(chimney 1;);gutter 0 1 9;gutter 1 2 9;gutter 2 3 9;cat 1 1 1;claim 0;step 0 1;step 0 2;cat 0 1 1;"
                + "truce 0 1 1 1;step 1 0;nights 1;");
        Check.that("no truce", z.truceNights(0, 1), 0);
        Check.that("with the present one", z.reachable(1), 7);
        Check.that("no step", z.stepsTo(1, 1), 0);
    }

    private static void openGutters() {
        RooftopCats x = new RooftopCats();
        Check.that("openGutters 0", x.openGutters(0), 1);
        Check.that("openGutters 1", x.openGutters(1), 6);
        Check.that("openGutters 2", x.openGutters(2), 16);
        RooftopCats y = Text.roof("roof;chimney 1;chimney 1;repeat 20(gutter 0 1 5;);cat 0 5 1;");
        Check.that("all", y.openGutters(0), (1 << 20) - 1);
        y.addCat(1, 6, 1);
        Check.that("none", y.openGutters(0), 0);
        Check.that("none", y.openGutters(1), 0);
    }

    private static void preyOf() {
        RooftopCats x = Text.roof("roof;repeat 9(chimney 1;);gutter 0 1 9;gutter 0 2 9;gutter 0 3 1;gutter 4 0 2;gutter 5 0 9;gutter 0 6 9;"
                + "cat 0 2 5;cat 1 1 1;cat 2 1 5;cat 3 1 1;cat 4 1 4;cat 5 1 1;cat 6 1 3;claim 6;truce 5 0 1 5;cat 8 1 1;");
        Check.that("prey", x.preyOf(0), 1 << 1 | 1 << 4);
        x.abandon(6);
        Check.that("prey", x.preyOf(0), 1 << 1 | 1 << 4 | 1 << 6);
        x.claim(0);
        Check.that("prey", x.preyOf(0), 1 << 1 | 1 << 2 | 1 << 4 | 1 << 6);
        Check.that("no prey", x.preyOf(7), 0);
        Check.that("no prey", x.preyOf(2), 0);
    }
}
