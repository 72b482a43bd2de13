/** Promises 2 to 4, 20 and 21 (the input buffer, scripts and their errors). */
public final class InputTest {
    private static final int NONE = RooftopCats.NONE;

    public static void main(String[] args) {
        append();
        truncateInput();
        runScript();
        commands();
        tokens();
        grammarErrors();
        numberErrors();
        refusals();
        repeats();
        manyCommands();
        errorStays();
        scriptAfterScript();
        Check.end("InputTest");
    }

    private static void append() {
        RooftopCats x = new RooftopCats();
        for (int i = 1; i <= 30; i++) {
            Check.that("append " + i, x.append(0, 0, 0, 0, 0), 20 * i);
        }
        Check.that("append to 600", x.append(0, 0, 0, 0, 0), NONE);
        Check.that("shortened", x.truncateInput(581), 581);
        Check.that("append to 581", x.append(0, 0, 0, 0, 0), NONE);
        Check.that("nothing was appended", x.truncateInput(581), 581);
        Check.badArgument(x, "truncateInput(582)", () -> x.truncateInput(582));
        Check.that("shortened", x.truncateInput(580), 580);
        Check.that("append to 580", x.append(0, 0, 0, 0, 0), 600);

        // The order of the bytes: each of the parameters holds four letters of the text.
        RooftopCats y = new RooftopCats();
        Check.that("length", y.append(0x726f6f66, 0x3b636869, 0x6d6e6579, 0x2039203b, 0x20200a20), 20);
        Check.that("cats", y.runScript(), 0);
        Check.that("no error", y.scriptErrorKind(), 0);
        Check.that("warmth", y.warmth(0), 9);
        Check.that("chimneys", y.chimneyCount(), 1);
        // The first byte that begins no token, at each of the 20 places.
        for (int place = 0; place < 20; place++) {
            StringBuilder text = new StringBuilder("roof;              ;");
            text.setCharAt(place, (char) (200 + place));
            Check.that("run", Text.run(y, text.toString()), NONE);
            // In the word roof, it makes the word in front of it a wrong one.
            Check.that("offset of byte " + place, y.scriptErrorOffset(), place < 4 ? 0 : place);
        }
    }

    private static void truncateInput() {
        RooftopCats x = new RooftopCats();
        Check.that("empty at first", x.truncateInput(0), 0);
        Check.badArgument(x, "truncateInput(1)", () -> x.truncateInput(1));
        Check.badArgument(x, "truncateInput(-1)", () -> x.truncateInput(-1));
        x.append(0, 0, 0, 0, 0);
        Check.that("same length", x.truncateInput(20), 20);
        Check.badArgument(x, "truncateInput(21)", () -> x.truncateInput(21));
        Check.badArgument(x, "truncateInput(MIN)", () -> x.truncateInput(Integer.MIN_VALUE));
        Check.badArgument(x, "truncateInput(MAX)", () -> x.truncateInput(Integer.MAX_VALUE));
        Check.that("shortened", x.truncateInput(7), 7);
        Check.that("appended behind", x.append(0, 0, 0, 0, 0), 27);

        // What was cut off is gone: the text is "roof" and then ";" with blanks.
        RooftopCats y = new RooftopCats();
        Text.put(y, "roofchimney 1;");
        y.truncateInput(4);
        y.append(Text.four(";   ", 0), 0x20202020, 0x20202020, 0x20202020, 0x20202020);
        Check.that("script", y.runScript(), 0);
        Check.that("chimneys", y.chimneyCount(), 0);
    }

    private static void runScript() {
        RooftopCats x = new RooftopCats();
        x.claim(2);
        x.nominate(1, 1);
        Check.that("cats", Text.run(x, "roof; chimney 1; chimney 2; cat 1 1 1; cat 0 2 2;"), 2);
        Check.that("chimneys", x.chimneyCount(), 2);
        Check.that("gutters", x.gutterCount(), 0);
        Check.that("night", x.night(), 0);
        Check.that("no kitten", x.isKittenWaiting(), false);
        Check.that("no owner", x.ownerOf(0), NONE);
        Check.that("no truce", x.truceNights(0, 1), 0);
        Check.that("violations", x.violations(), 0);
        Check.that("undo count", x.undoCount(), 3);
        Check.that("buffer is empty", x.append(0, 0, 0, 0, 0), 20);
        x.truncateInput(0);

        String before = Look.atRoof(x);
        Check.that("script with an error", Text.run(x, "roof; chimney 1; chimney 1; chimney 1; claim 0;"), NONE);
        Check.that("nothing else changed", Look.atRoof(x), before);
        Check.that("undo count", x.undoCount(), 3);
        Check.that("error", x.scriptErrorKind(), 2);
        Check.that("offset", x.scriptErrorOffset(), 45);
        Check.that("buffer is empty", x.append(0, 0, 0, 0, 0), 20);

        RooftopCats y = new RooftopCats();
        Check.that("cats", Text.run(y, "roof;"), 0);
        Check.that("empty roof", Look.atRoof(y), "night 0 moon 0; kitten false 0 0; violations 0");
        Check.that("undo", y.undo(), 0);
        Check.that("the roof of before", Look.atRoof(y), Look.atRoof(new RooftopCats()));

        // Truces and votes of the roof before do not come through.
        RooftopCats z = new RooftopCats();
        z.nominate(1, 1);
        z.vote(1, true);
        Check.that("cats", Text.run(z, "roof; chimney 1; chimney 2; chimney 3; cat 0 1 1; cat 1 1 1; cat 2 1 1; kitten 1 1;"), 3);
        Check.that("no truce", z.truceNights(1, 2), 0);
        Check.that("no vote", z.hasVoted(1), false);
        Check.that("no vote for", z.votesFor(), 0);
    }

    private static void commands() {
        RooftopCats x = Text.roof("roof; chimney 9; chimney 3; chimney 0; chimney 8; gutter 0 1 9; gutter 1 2 4; cat 0 2 3; cat 2 4 6;"
                + "step 0 0; claim 0; truce 0 1 5 20; nights 30; abandon 1; claim 0; kitten 3 7; yes 0; no 1; kitten 4 8; yes 1; yes 0;"
                + "chase 1 0;");
        Check.that("roof", Look.atRoof(x), "night 30 moon 6; chimney 9 -1 2; chimney 3 1 1; chimney 0 -1 0; chimney 8 -1 -1"
                + "; gutter 3 9; gutter 6 4; cat 2 3 37 2 false truces 0 0 0; cat 4 8 1 1 false truces 0 0 0"
                + "; cat 4 8 5 0 false truces 0 0 0; kitten false 0 0; violations 0");
    }

    private static void tokens() {
        Text.right("roof;");
        Text.right("\n roof \n;\n ");
        Text.right("roof;chimney1;chimney2;gutter0 1\n9;cat0 1 1;");
        Text.right("roof;chimney 001;chimney 009;gutter 000 001 009;");
        Text.right("roof;repeat 2(chimney 1;);repeat\n2\n(\n)\n;");
        Text.errorAt(1, "roof;chimney ^0001;");
        Text.errorAt(1, "roof;chimney ^1234567890123456789012345;");
        Text.errorAt(2, "roof;chimney ^999;");
        Text.errorAt(1, "roof;chimney 1^a;");
        Text.errorAt(1, "roof;chimney ^-1;");
        Text.errorAt(1, "roof;^Chimney 1;");
        Text.errorAt(1, "roof;^\t");
        Text.errorAt(1, "roof;^\r\n");
        Text.errorAt(1, "roof;^\0");
        Text.errorAt(1, "roof;^\u00ff");
        Text.errorAt(1, "roof;^`");
        Text.errorAt(1, "roof;^{");
        Text.errorAt(1, "roof;chimney ^/");
        Text.errorAt(1, "roof;chimney ^:");
        Text.errorAt(1, "roof;chimney 1^,");
        Text.errorAt(1, "roof;chimney 1^\u00bb");
    }

    private static void grammarErrors() {
        Text.errorAt(1, "^");
        Text.errorAt(1, "  \n^");
        Text.errorAt(1, "roof^");
        Text.errorAt(1, "roof  ^");
        Text.errorAt(1, "^roo;");
        Text.errorAt(1, "^roofs;");
        Text.errorAt(1, "^chimney 1;");
        Text.errorAt(1, "^;");
        Text.errorAt(1, "^1;");
        Text.errorAt(1, "roof^(");
        Text.errorAt(1, "roof;^;");
        Text.errorAt(1, "roof;^roof;");
        Text.errorAt(1, "roof;^1;");
        Text.errorAt(1, "roof;^(chimney 1;);");
        Text.errorAt(1, "roof;^);");
        Text.errorAt(1, "roof;^chimneys 1;");
        Text.errorAt(1, "roof;^chimne 1;");
        Text.errorAt(1, "roof;chimney ^;");
        Text.errorAt(1, "roof;chimney ^");
        Text.errorAt(1, "roof;chimney 1^");
        Text.errorAt(1, "roof;chimney 1 \n^");
        Text.errorAt(1, "roof;chimney ^one;");
        Text.errorAt(1, "roof;chimney ^(1);");
        Text.errorAt(1, "roof;chimney 1 ^2;");
        Text.errorAt(1, "roof;chimney 1 ^chimney 2;");
        Text.errorAt(1, "roof;chimney 1^);");
        Text.errorAt(1, "roof;chimney 1;chimney 1;gutter 0 1^;");
        Text.errorAt(1, "roof;chimney 1;chimney 1;gutter 0 1 1 ^1;");
        Text.errorAt(1, "roof;repeat ^(");
        Text.errorAt(1, "roof;repeat 2 ^chimney 1;");
        Text.errorAt(1, "roof;repeat 2 (^");
        Text.errorAt(1, "roof;repeat 2 (chimney 1;^");
        Text.errorAt(1, "roof;repeat 2 (chimney 1^);");
        Text.errorAt(1, "roof;repeat 2 (chimney 1;)^");
        Text.errorAt(1, "roof;repeat 2 (chimney 1;) ^chimney 1;");
        Text.errorAt(1, "roof;repeat 2 (chimney 1;)^);");
        Text.errorAt(1, "roof;repeat 2 (^;);");
        Text.errorAt(1, "roof;repeat 2 (repeat 2 (chimney 1;)^);");
        // A refusal is only found at the semicolon, an earlier number at its own place.
        Text.errorAt(1, "roof;chimney 1;cat 0 1 1;claim 0;claim 0 ^0;");
        Text.errorAt(2, "roof;gutter ^0 x");
    }

    private static void numberErrors() {
        Text.errorAt(2, "roof;chimney ^10;");
        String two = "roof;chimney 1;chimney 1;";
        Text.errorAt(2, two + "gutter ^2 1 1;");
        Text.errorAt(2, two + "gutter 0 ^2 1;");
        Text.errorAt(2, two + "gutter 0 ^0 1;");
        Text.errorAt(2, two + "gutter 0 1 ^0;");
        Text.errorAt(2, two + "gutter 0 1 ^10;");
        Text.right(two + "gutter 1 0 9;gutter 0 1 1;");
        Text.errorAt(2, two + "cat ^2 1 1;");
        Text.errorAt(2, two + "cat 1 ^0 1;");
        Text.errorAt(2, two + "cat 1 ^10 1;");
        Text.errorAt(2, two + "cat 1 1 ^0;");
        Text.errorAt(2, two + "cat 1 1 ^10;");
        Text.right(two + "cat 1 9 9;cat 0 1 1;");
        String cats = two + "gutter 0 1 9;cat 0 1 9;cat 1 1 1;";
        Text.errorAt(2, cats + "step ^2 0;");
        Text.errorAt(2, cats + "step 0 ^1;");
        Text.errorAt(2, cats + "claim ^2;");
        Text.errorAt(2, cats + "abandon ^2;");
        Text.errorAt(2, cats + "chase ^2 0;");
        Text.errorAt(2, cats + "chase 0 ^2;");
        Text.errorAt(2, cats + "chase 1 ^1;");
        Text.errorAt(2, cats + "truce ^2 0 1 1;");
        Text.errorAt(2, cats + "truce 0 ^2 1 1;");
        Text.errorAt(2, cats + "truce 1 ^1 1 1;");
        Text.errorAt(2, cats + "truce 0 1 ^0 1;");
        Text.errorAt(2, cats + "truce 0 1 ^10 1;");
        Text.errorAt(2, cats + "truce 0 1 1 ^0;");
        Text.errorAt(2, cats + "truce 0 1 1 ^21;");
        Text.right(cats + "truce 0 1 5 20;");
        Text.right("roof;chimney 3;chimney 1;cat 0 1 1;cat 1 1 1;claim 0;nights 4;truce 0 1 9 20;");
        Text.errorAt(2, cats + "kitten ^0 1;");
        Text.errorAt(2, cats + "kitten ^10 1;");
        Text.errorAt(2, cats + "kitten 1 ^0;");
        Text.errorAt(2, cats + "kitten 1 ^10;");
        Text.right(cats + "kitten 9 9;");
        Text.errorAt(2, cats + "kitten 1 1;yes ^2;");
        Text.errorAt(2, cats + "kitten 1 1;no ^2;");
        Text.errorAt(2, cats + "nights ^0;");
        Text.errorAt(2, cats + "nights ^31;");
        Text.right(cats + "nights 30;nights 1;");
        Text.errorAt(2, cats + "repeat ^0 (nights 1;);");
        Text.errorAt(2, cats + "repeat ^21 (nights 1;);");
        Text.right(cats + "repeat 20 (nights 1;);repeat 1 (nights 1;);");
    }

    private static void refusals() {
        String two = "roof;chimney 1;chimney 1;";
        String cats = two + "gutter 0 1 8;cat 0 1 9;cat 1 1 1;";
        Text.errorAt(3, "roof;repeat 10(chimney 1;);chimney 9^;");
        Text.errorAt(3, two + "repeat 20(gutter 0 1 1;);gutter 0 1 1^;");
        Text.errorAt(3, two + "cat 0 1 1;cat 0 1 1 ^;");
        Text.errorAt(3, cats + "step 0 0^;");
        Text.errorAt(3, cats + "claim 0;claim 0^;");
        Text.errorAt(3, cats + "abandon 0^;");
        Text.errorAt(3, cats + "chase 1 0^;");
        Text.errorAt(3, cats + "truce 0 1 6 1^;");
        Text.errorAt(3, two + "kitten 1 1^;");
        Text.errorAt(3, cats + "yes 0^;");
        Text.errorAt(3, cats + "no 0^;");
        Text.errorAt(3, cats + "kitten 1 1;yes 0;no 0^;");
        Text.errorAt(3, "roof;repeat 20(nights 30;);repeat 13(nights 30;);nights 9;nights 1^;");
        Text.right("roof;repeat 20(nights 30;);repeat 13(nights 30;);nights 9;");
        Text.errorAt(3, "roof;repeat 20(nights 30;);repeat 13(nights 30;);nights 10^;");
        // An error in a later repetition.
        Text.errorAt(3, "roof;repeat 11(chimney 1 ^;);");
        Text.errorAt(3, two + "cat 0 1 1;repeat 2(claim 0^;);");
        Text.errorAt(3, two + "cat 0 1 1;cat 1 1 1;kitten 1 1;repeat 2(yes 0^;);");
    }

    private static void repeats() {
        Text.errorAt(4, "roof;repeat 1(repeat 1(^repeat 1(chimney 1;););););");
        Text.errorAt(4, "roof;repeat 1(repeat 1(chimney 1;^repeat x");
        Text.errorAt(1, "roof;repeat 1(repeat 1(chimney ^repeat");
        Text.right("roof;repeat 2(repeat 2(chimney 1;);repeat 2(chimney 2;););");
        RooftopCats x = Text.roof("roof;repeat 2(repeat 2(chimney 1;);chimney 2;repeat 1(chimney 3;););");
        int[] due = {1, 1, 2, 3, 1, 1, 2, 3};
        Check.that("chimneys", x.chimneyCount(), due.length);
        for (int i = 0; i < due.length; i++) {
            Check.that("warmth " + i, x.warmth(i), due[i]);
        }
        RooftopCats y = Text.roof("roof;repeat 20(repeat 9(nights 1;);nights 1;);repeat 20(repeat 20(););");
        Check.that("nights", y.night(), 200);
        Check.that("nothing repeated", Text.roof("roof;repeat 20();").chimneyCount(), 0);
    }

    private static void manyCommands() {
        Text.right("roof;repeat 20(repeat 10(nights 1;););");
        Text.errorAt(5, "roof;repeat 20(repeat 10(nights 1;););^nights 1;");
        Text.errorAt(5, "roof;repeat 20(repeat 11(^nights 1;););");
        Text.errorAt(5, "roof;chimney 1;repeat 20(repeat 10(^nights 1;););");
        Text.errorAt(5, "roof;repeat 20(repeat 10(nights 1;););^nights x");
        Text.errorAt(1, "roof;repeat 20(repeat 10(nights 1;););^night 1;");
        Text.errorAt(1, "roof;repeat 20(repeat 10(nights 1;););^;");
        // A repeat does not count.
        Text.right("roof;repeat 20(repeat 10(nights 1;););repeat 2(repeat 2(););");
        Text.errorAt(5, "roof;repeat 20(repeat 10(nights 1;););repeat 2(^nights 1;);");
        Text.errorAt(4, "roof;repeat 20(repeat 10(nights 1;););repeat 2(repeat 2(^repeat 2();););");
        Text.errorAt(2, "roof;repeat 20(repeat 10(nights 1;););repeat ^0();");
    }

    private static void errorStays() {
        RooftopCats x = new RooftopCats();
        Check.that("kind at first", x.scriptErrorKind(), 0);
        Check.that("offset at first", x.scriptErrorOffset(), NONE);
        Text.run(x, "roof;nights 0;");
        x.passNights(1);
        x.saveSnapshot();
        x.undo();
        x.restoreSnapshot();
        Check.that("kind stays", x.scriptErrorKind(), 2);
        Check.that("offset stays", x.scriptErrorOffset(), 12);
        Text.run(x, "roof;");
        Check.that("kind goes", x.scriptErrorKind(), 0);
        Check.that("offset goes", x.scriptErrorOffset(), NONE);
        x.undo();
        Check.that("undo does not bring it back", x.scriptErrorKind(), 0);

        RooftopCats y = new RooftopCats();
        StringBuilder text = new StringBuilder("roof;");
        while (text.length() < 599) {
            text.append(' ');
        }
        Check.that("600 bytes", Text.run(y, text.append('!').toString()), NONE);
        Check.that("the last byte", y.scriptErrorOffset(), 599);
        text.setCharAt(599, ' ');
        Check.that("600 bytes without an error", Text.run(y, text.toString()), 0);
        text.replace(592, 600, "repeat 1");
        Check.that("the end of 600 bytes", Text.run(y, text.toString()), NONE);
        Check.that("offset of the end", y.scriptErrorOffset(), 600);
    }

    /** A script finds nothing of an earlier one, whether this had an error or not. */
    private static void scriptAfterScript() {
        String much = "roof;chimney 9;chimney 1;chimney 1;gutter 0 1 9;gutter 1 2 9;cat 0 1 1;cat 1 1 1;claim 0;truce 0 1 1 20;"
                + "kitten 5 5;yes 0;repeat 2(repeat 5(nights 1;););";
        String[] before = {much, much + "nights 0;", much + "repeat 2(repeat 2(claim 0;", much + "repeat 20(repeat 20(nights 1;););"};
        String[] due = {"roof;", "roof;chimney 1;chimney 2;cat 1 1 1;cat 0 1 1;", "roof;repeat 2(repeat 2(chimney 1;););cat 3 1 1;kitten 1 1;",
            "roof;chimney 1;chimney 1;cat 0 1 1;nights 2;cat 1 1 1;", "roof;repeat 20(repeat 10(nights 1;););"};
        for (String first : before) {
            for (String second : due) {
                RooftopCats x = new RooftopCats();
                Text.run(x, first);
                Text.run(x, second);
                Check.that("no error of " + second, x.scriptErrorKind(), 0);
                Check.that("roof of " + second, Look.atRoof(x), Look.atRoof(Text.roof(second)));
            }
            RooftopCats y = new RooftopCats();
            Text.run(y, first);
            Check.that("no repeat is open", Text.run(y, "roof;);"), NONE);
            Check.that("kind", y.scriptErrorKind(), 1);
            Check.that("offset", y.scriptErrorOffset(), 5);
            Text.run(y, "roof;chimney 1;chimney 1;gutter 0 1 1;cat 0 1 1;step 0 1;");
            Check.that("no second gutter", y.scriptErrorKind(), 2);
        }
    }
}
