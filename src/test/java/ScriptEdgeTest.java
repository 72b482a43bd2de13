/**
 * Promises 2 to 4, 20 and 21, and what "Terms" says of scripts, at their edges: the buffer when it is empty and when it
 * is full, each byte, each number one below and one above its range, each refusal next to the call that is allowed.
 */
public final class ScriptEdgeTest {
    private static final int NONE = RooftopCats.NONE;
    /** Four chimneys, two gutters, three cats: of each there is one that is the last. */
    private static final String SOME = "roof;repeat 4(chimney 1;);gutter 0 1 5;gutter 0 2 9;cat 0 3 9;cat 1 1 1;cat 3 1 1;";
    private static final String LAST_NIGHT = "repeat 20(nights 30;);repeat 13(nights 30;);nights 9;";
    private static final String SEVEN = "roof;repeat 9(chimney 1;);cat 0 1 1;cat 1 1 1;cat 2 1 1;cat 3 1 1;cat 4 1 1;cat 5 1 1;cat 6 1 1;";
    private static final String TWO_HUNDRED = "repeat 20(repeat 10(nights 1;););";

    public static void main(String[] args) {
        appendAtEachLength();
        appendedBytes();
        truncateAtEachLength();
        scriptsOfSomeLengths();
        bufferIsEmptyAfterwards();
        catsAreCounted();
        scriptReplacesEverything();
        failedScriptChangesNothing();
        latestScriptCounts();
        eachByte();
        maximalRuns();
        eachWord();
        digits();
        eachEnd();
        eachCommand();
        ranges();
        sameNumbers();
        roofRefusals();
        stepAndClaimRefusals();
        chaseAndTruceRefusals();
        kittenAndNightRefusals();
        placeOfRefusals();
        repeats();
        laterRepetitions();
        depth();
        twoHundredCommands();
        smallestKind();
        Check.end("ScriptEdgeTest");
    }

    private static RooftopCats filled(int length) {
        RooftopCats x = new RooftopCats();
        while (x.append(0, 0, 0, 0, 0) < length) {
            Check.that("not full", length <= 600, true);
        }
        x.truncateInput(length);
        return x;
    }

    // ---- promises 2 and 3

    /** "or NONE (and nothing is appended) if it would be greater than 600". */
    private static void appendAtEachLength() {
        for (int length = 0; length <= 600; length++) {
            RooftopCats x = filled(length);
            int due = length <= 580 ? length + 20 : NONE;
            Check.that("append to " + length, x.append(-1, -1, -1, -1, -1), due);
            int now = length <= 580 ? length + 20 : length;
            Check.badArgument(x, "a longer buffer than " + now, () -> x.truncateInput(now + 1));
            Check.that("length", x.truncateInput(now), now);
        }
        // What is in the buffer stays what it is.
        RooftopCats x = new RooftopCats();
        StringBuilder text = new StringBuilder("roof;chimney 4;");
        while (text.length() < 581) {
            text.append(' ');
        }
        Text.put(x, text.toString());
        Check.that("refused", x.append(Text.four("xxxx", 0), -1, -1, -1, -1), NONE);
        Check.that("run", x.runScript(), 0);
        Check.that("warmth", x.warmth(0), 4);
        Check.that("chimneys", x.chimneyCount(), 1);
    }

    /** "the four bytes of each parameter, the most significant byte first". */
    private static void appendedBytes() {
        for (int place = 0; place < 20; place++) {
            for (int bad : new int[] {0, 1, 127, 128, 255}) {
                int[] words = new int[5];
                for (int i = 0; i < 20; i++) {
                    words[i / 4] |= (i == place ? bad : ' ') << 24 - i % 4 * 8;
                }
                RooftopCats x = new RooftopCats();
                x.append(words[0], words[1], words[2], words[3], words[4]);
                Check.that("run", x.runScript(), NONE);
                Check.that("byte " + bad + " at " + place, x.scriptErrorOffset(), place);
            }
        }
        RooftopCats x = new RooftopCats();
        x.append(0x726f6f66, 0x3b636869, 0x6d6e6579, 0x20373b63, 0x61742030);
        Check.that("length", x.append(0x20382039, 0x3b20200a, 0x0a0a0a0a, 0x20202020, 0x20202020), 40);
        Check.that("run", x.runScript(), 1);
        Check.that("warmth", x.warmth(0), 7);
        Check.that("girth", x.girth(0), 8);
        Check.that("strength", x.power(0), 9);
    }

    /** "if length is negative or greater than the present length". */
    private static void truncateAtEachLength() {
        for (int length : new int[] {0, 1, 20, 300, 599, 600}) {
            for (int wrong : Check.outside(0, length)) {
                RooftopCats x = length == 0 ? new RooftopCats() : filled(length);
                Check.badArgument(x, "truncateInput(" + wrong + ") of " + length, () -> x.truncateInput(wrong));
                Check.that("the length stays", x.truncateInput(length), length);
            }
            for (int right : new int[] {0, length / 2, Math.max(0, length - 1), length}) {
                RooftopCats x = length == 0 ? new RooftopCats() : filled(length);
                Check.that("truncateInput of " + length, x.truncateInput(right), right);
                Check.badArgument(x, "what was cut off", () -> x.truncateInput(right + 1));
                Check.that("the new length", x.truncateInput(right), right);
            }
        }
        // Both calls refuse without touching what undo, snapshot and buffer hold.
        Twin twin = new Twin(Text.FIRST, x -> x.nominate(1, 1));
        twin.badArgument("truncateInput(-1)", x -> x.truncateInput(-1));
        twin.badArgument("truncateInput of one more", x -> x.truncateInput(Twin.BUFFER.length() + 1));
        twin.tells("truncateInput of as many", Twin.BUFFER.length(), x -> x.truncateInput(Twin.BUFFER.length()));
    }

    // ---- promises 4, 20 and 21

    private static String padded(String text, String end, int length) {
        StringBuilder all = new StringBuilder(text);
        while (all.length() + end.length() < length) {
            all.append(all.length() % 2 == 0 ? ' ' : '\n');
        }
        return all.append(end).toString();
    }

    /** "a text of at most 600 bytes": empty, and of 599 and 600 bytes, with an error at the last byte and at the end. */
    private static void scriptsOfSomeLengths() {
        Text.errorAt(1, "^");
        for (int length : new int[] {22, 40, 599, 600}) {
            RooftopCats x = Text.roof(padded("roof;chimney 3;", "", length));
            Check.that("chimneys of " + length + " bytes", x.chimneyCount(), 1);
            RooftopCats y = Text.roof(padded("roof;", "chimney 3;", length));
            Check.that("chimneys of " + length + " bytes", y.chimneyCount(), 1);
            Text.errorAt(1, padded("roof;", "^!", length + 1));
            Text.errorAt(2, padded("roof;", "chimney ^10;", length + 1));
            Text.errorAt(1, padded("roof;", "chimney 1^", length + 1));
        }
        // As many statements as fit: none of them is left out.
        StringBuilder much = new StringBuilder("roof;repeat 20(");
        for (int i = 0; i < 48; i++) {
            much.append("repeat 20();");
        }
        Text.right(much + ");");
        Text.errorAt(1, much + ");^x");
    }

    /** "The input buffer is empty afterwards in every case." */
    private static void bufferIsEmptyAfterwards() {
        String[] texts = {"", "roof;", SOME, "roof", "roof;nights 0;", "roof;claim 0;", "roof;chimney 1;abandon 0;", "roof;kitten 1 1;",
            "roof;repeat 1(repeat 1(repeat 1();););", "roof;" + TWO_HUNDRED + "nights 1;"};
        int[] kinds = {1, 0, 0, 1, 2, 2, 3, 3, 4, 5};
        for (int i = 0; i < texts.length; i++) {
            RooftopCats x = new RooftopCats();
            Text.run(x, texts[i]);
            Check.that("kind of " + texts[i], x.scriptErrorKind(), kinds[i]);
            Check.badArgument(x, "a byte left of " + texts[i], () -> x.truncateInput(1));
            Check.that("length behind " + texts[i], x.truncateInput(0), 0);
            Check.that("append behind " + texts[i], x.append(0, 0, 0, 0, 0), 20);
        }
    }

    /** "Returns the number of cats, or NONE if the script has an error." */
    private static void catsAreCounted() {
        StringBuilder text = new StringBuilder("roof;repeat 10(chimney 1;);");
        for (int cats = 0; cats <= 8; cats++) {
            RooftopCats x = new RooftopCats();
            Check.that("cats", Text.run(x, text.toString()), cats);
            Check.that("catCount", x.catCount(), cats);
            Check.that("with an error", Text.run(x, text + "nights 0;"), NONE);
            Check.that("catCount", x.catCount(), cats);
            text.append("cat ").append(cats).append(" 1 1;");
        }
        Check.that("an admitted kitten, too", Text.run(new RooftopCats(), "roof;chimney 1;chimney 1;cat 0 1 1;kitten 1 1;yes 0;"), 2);
    }

    /** "the roof is empty and the night is 0 before its first command"; the snapshot and the report stay. */
    private static void scriptReplacesEverything() {
        RooftopCats x = new RooftopCats();
        x.saveSnapshot();
        x.writeRoof();
        x.nominate(1, 1);
        x.vote(0, true);
        x.buyTruce(0, 1, 1, 20);
        x.passNights(30);
        String before = Look.atRoof(x);
        Check.that("cats", Text.run(x, "roof;"), 0);
        Check.that("empty", Look.atRoof(x), "night 0 moon 0; kitten false 0 0; violations 0");
        Check.that("undoCount", x.undoCount(), 5);
        Check.that("report", Look.report(x), "6c0o0 3 9c1o1 0 4c2");
        Check.that("undo", x.undo(), 4);
        Check.that("undone", Look.atRoof(x), before);
        Text.run(x, "roof;chimney 2;chimney 2;chimney 2;cat 0 1 1;cat 1 1 1;cat 2 1 1;kitten 2 2;");
        Check.that("nothing is left of the roof before", Look.atRoof(x), "night 0 moon 0; chimney 2 -1 0; chimney 2 -1 1; chimney 2 -1 2"
                + "; cat 1 1 5 0 false truces 0 0 0; cat 1 1 5 1 false truces 0 0 0; cat 1 1 5 2 false truces 0 0 0"
                + "; kitten true 0 0; violations 0");
        Check.that("snapshot", x.restoreSnapshot(), 3);
        Check.that("snapshot", Look.atRoof(x), Look.atRoof(new RooftopCats()));
        // Nor of the script before: a truce, a vote, a gutter, an owner, fish and nights.
        String few = "roof;chimney 2;chimney 2;chimney 2;cat 0 1 1;cat 1 1 9;cat 2 1 1;kitten 2 2;";
        Text.run(x, few + "gutter 0 1 9;claim 1;truce 0 1 1 20;truce 1 2 1 20;nights 3;yes 0;");
        Text.run(x, few);
        Check.that("roof", Look.atRoof(x), Look.atRoof(Text.roof(few)));
        Check.that("no gutter", x.whyNoChase(1, 0), 7);
        Check.that("not in a choir", x.choirOf(0), 1);
        Check.that("no way", x.widestWay(0, 1), NONE);
    }

    /** "If the script has an error, only the input buffer and the script error change." */
    private static void failedScriptChangesNothing() {
        String much = "roof;chimney 8;chimney 8;gutter 0 1 8;cat 0 1 9;cat 1 1 1;claim 0;claim 1;chase 0 1;truce 0 1 1 20;nights 9;kitten 9 9;yes 0;";
        String[] ends = {"", "x", "nights 0;", "claim 0;", "repeat 1(repeat 1(repeat 1();););", "repeat 19(repeat 10(nights 1;););"};
        Twin[] twins = {new Twin("roof;"), new Twin(Text.FIRST, x -> x.nominate(3, 3), x -> x.vote(1, true), x -> x.passNights(1))};
        for (Twin twin : twins) {
            for (int kind = 1; kind <= 5; kind++) {
                RooftopCats x = new RooftopCats();
                Text.run(x, much + ends[kind]);
                Check.that("error kind", x.scriptErrorKind(), kind);
                twin.scriptFails(much + ends[kind]);
            }
            twin.scriptFails("");
        }
        Text.right(much);
    }

    /** "of the error of the latest script, or 0 if it had no error or no script was run", "NONE if scriptErrorKind() is 0". */
    private static void latestScriptCounts() {
        RooftopCats x = new RooftopCats();
        Check.that("no script was run", x.scriptErrorKind(), 0);
        Check.that("no script was run", x.scriptErrorOffset(), NONE);
        String[] texts = {"", "roof;", "roof;nights 0;", " x", "roof;", "roof;claim 0;", "roof;kitten 1 1;", "roof;"};
        int[] kinds = {1, 0, 2, 1, 0, 2, 3, 0};
        int[] offsets = {0, NONE, 12, 1, NONE, 11, 15, NONE};
        for (int i = 0; i < texts.length; i++) {
            Text.run(x, texts[i]);
            Check.that("kind of " + texts[i], x.scriptErrorKind(), kinds[i]);
            Check.that("offset of " + texts[i], x.scriptErrorOffset(), offsets[i]);
            // Other calls leave it: also those that throw, undo, the snapshot and a buffer that was not run.
            Check.badArgument(x, "addChimney(10)", () -> x.addChimney(10));
            x.saveSnapshot();
            x.passNights(1);
            x.undo();
            x.restoreSnapshot();
            x.append(0, 0, 0, 0, 0);
            x.truncateInput(0);
            Check.that("kind later", x.scriptErrorKind(), kinds[i]);
            Check.that("offset later", x.scriptErrorOffset(), offsets[i]);
        }
    }

    // ---- tokens

    /** "a byte that does not begin a token", "Spaces (byte 32) and line feeds (byte 10)": each of the 256 bytes. */
    private static void eachByte() {
        for (int sign = 0; sign < 256; sign++) {
            char c = (char) sign;
            boolean blank = c == ' ' || c == '\n';
            boolean digit = c >= '0' && c <= '9';
            boolean letter = c >= 'a' && c <= 'z';
            String what = "byte " + sign + ": ";
            RooftopCats x = new RooftopCats();
            // In front of a command, where only a blank may stand.
            Text.run(x, "roof;" + c + "chimney 1;");
            Check.that(what + "kind in front", x.scriptErrorKind(), blank ? 0 : 1);
            Check.that(what + "offset in front", x.scriptErrorOffset(), blank ? NONE : 5);
            // Behind a word: a letter makes another word of it; a digit and the semicolon are tokens of their own.
            Text.run(x, "roof" + c + "roof" + c + ";");
            Check.that(what + "kind behind a word", x.scriptErrorKind(), 1);
            Check.that(what + "offset behind a word", x.scriptErrorOffset(), letter ? 0 : blank || c == ';' ? 5 : 4);
            // Behind a number: a digit makes another number of it, which is out of range.
            Text.run(x, "roof;chimney 1" + c + ";");
            int kind = blank ? 0 : digit ? 2 : 1;
            Check.that(what + "kind behind a number", x.scriptErrorKind(), kind);
            Check.that(what + "offset behind a number", x.scriptErrorOffset(), blank ? NONE : digit ? 13 : c == ';' ? 15 : 14);
            // In the place of a number.
            Text.run(x, "roof;chimney" + ' ' + c + ";");
            Check.that(what + "kind in place of a number", x.scriptErrorKind(), digit ? 0 : 1);
            Check.that(what + "offset in place of a number", x.scriptErrorOffset(), digit ? NONE : blank ? 14 : 13);
        }
    }

    /** "a word (a maximal run of the letters a to z), a number (a maximal run of 1 to 3 digits)". */
    private static void maximalRuns() {
        Text.right("roof;chimney1;chimney2;chimney003;gutter0 1 1;cat2 1 1;repeat2(nights1;);");
        Text.errorAt(1, "^ro of;");
        Text.errorAt(1, "^roofroof;");
        Text.errorAt(1, "roof;^chim ney 1;");
        Text.errorAt(1, "roof;^chi\nmney 1;");
        Text.errorAt(1, "roof;^nightsz 1;");
        Text.errorAt(1, "roof;^anights 1;");
        Text.errorAt(1, "roof;^nightsnights 1;");
        Text.errorAt(1, "roof;nights 1 ^0;");
        Text.errorAt(1, "roof;nights 1\n^0;");
        Text.errorAt(2, "roof;nights ^100;");
        Text.errorAt(1, "roof;chimney 1;chimney 1;gutter 0 1^;");
        Text.errorAt(2, "roof;chimney 1;chimney 1;gutter ^011;");
    }

    /** "a token that the grammar does not allow at this place": each word with one letter changed, left out or added. */
    private static void eachWord() {
        String[] words = {"roof", "chimney", "gutter", "cat", "step", "claim", "abandon", "chase", "truce", "kitten", "yes", "no", "nights", "repeat"};
        for (String word : words) {
            String before = word.equals("roof") ? "" : "roof;";
            for (int i = 0; i < word.length(); i++) {
                String rest = word.substring(i + 1);
                Text.errorAt(1, before + "^" + word.substring(0, i) + (word.charAt(i) == 'z' ? 'a' : (char) (word.charAt(i) + 1)) + rest + ";");
                Text.errorAt(1, before + "^" + word.substring(0, i) + rest + "q;");
                Text.errorAt(1, before + "^" + word.substring(0, i) + rest + ";");
                Text.errorAt(1, before + "^" + word.substring(0, i) + "q" + word.substring(i) + ";");
                Text.errorAt(1, before + "^" + word.substring(0, i) + Character.toUpperCase(word.charAt(i)) + rest + ";");
            }
            Text.errorAt(1, before + "^" + word + "q;");
            Text.errorAt(1, "roof;nights ^" + word + ";");
            Text.errorAt(1, "roof;repeat 2^" + word + ";");
        }
    }

    /** "a run of more than 3 digits": one to five digits, whatever their value. */
    private static void digits() {
        Text.right("roof;chimney 7;chimney 07;chimney 007;");
        Text.errorAt(1, "roof;chimney ^0007;");
        Text.errorAt(1, "roof;chimney ^00000;");
        Text.errorAt(2, "roof;chimney ^999;");
        Text.errorAt(1, "roof;chimney ^1000;");
        Text.errorAt(1, "roof;chimney ^4294967296;");
        Text.errorAt(1, "roof;chimney 007 ^0001;");
        Text.errorAt(1, "roof;^0001;");
    }

    /** "the end of the text inside a statement (the offset is then the length of the text)": each end of two scripts. */
    private static void eachEnd() {
        String[] texts = {"roof;chimney 1;chimney 2;gutter 0 1 9;cat 0 1 1;nights 1;", "roof ; repeat 2 ( chimney 1 ; repeat 1 ( ) ; ) ;"};
        for (String text : texts) {
            for (int length = 0; length < text.length(); length++) {
                String cut = text.substring(0, length);
                boolean inWord = length > 0 && Character.isLetter(text.charAt(length - 1)) && Character.isLetter(text.charAt(length));
                boolean inRepeat = cut.indexOf('(') >= 0;
                boolean whole = !inRepeat && (cut.endsWith(";") || cut.endsWith("; "));
                int start = length;
                while (inWord && start > 0 && Character.isLetter(text.charAt(start - 1))) {
                    start--;
                }
                // A word that is cut off is a wrong one.
                RooftopCats x = new RooftopCats();
                Text.run(x, cut);
                Check.that("kind of " + cut, x.scriptErrorKind(), whole ? 0 : 1);
                Check.that("offset of " + cut, x.scriptErrorOffset(), whole ? NONE : start);
                if (!whole && !inWord) {
                    // Blanks at the end belong to the text.
                    Text.errorAt(1, cut + " \n ^");
                }
            }
            Text.right(text);
        }
        Text.right("roof; \n ");
    }

    /** "The commands stand for the methods": each does as its method on the roof of another object. */
    private static void eachCommand() {
        String[] commands = {"chimney 9;", "gutter 3 2 8;", "cat 2 8 9;", "step 0 1;", "claim 2;", "abandon 1;", "chase 0 1;", "truce 2 0 3 19;",
            "kitten 8 9;", "kitten 1 2;yes 1;", "kitten 1 2;no 1;", "nights 29;"};
        Twin.Call[] calls = {x -> x.addChimney(9), x -> x.addGutter(3, 2, 8), x -> x.addCat(2, 8, 9), x -> x.step(0, 1), x -> x.claim(2),
            x -> x.abandon(1), x -> x.chase(0, 1), x -> x.buyTruce(2, 0, 3, 19), x -> x.nominate(8, 9),
            x -> vote(x, true), x -> vote(x, false), x -> x.passNights(29)};
        String roof = SOME + "claim 1;";
        for (int i = 0; i < commands.length; i++) {
            RooftopCats x = Text.roof(roof + commands[i]);
            RooftopCats y = Text.roof(roof);
            calls[i].make(y);
            Check.that(commands[i], Look.atRoof(x), Look.atRoof(y));
        }
    }

    private static void vote(RooftopCats x, boolean yes) {
        x.nominate(1, 2);
        x.vote(1, yes);
    }

    // ---- kind 2

    /** Only the numbers from least to most are not reported with the kind 2; each is also tried with zeros before it. */
    private static void range(String before, String after, int least, int most) {
        for (int number = 0; number <= 999; number += number < 40 ? 1 : 137) {
            for (String written : new String[] {"" + number, "0" + number, "00" + number}) {
                if (written.length() <= 3) {
                    String text = SOME + before + written + after;
                    RooftopCats x = new RooftopCats();
                    Text.run(x, text);
                    boolean right = number >= least && number <= most;
                    Check.that("kind 2 of " + text, x.scriptErrorKind() == 2, !right);
                    Check.that("kind 1 of " + text, x.scriptErrorKind() == 1, false);
                    if (!right) {
                        Check.that("offset of " + text, x.scriptErrorOffset(), SOME.length() + before.length());
                    }
                }
            }
        }
    }

    /** "a number that is out of its range (as for the method) or does not exist": each place of each command. */
    private static void ranges() {
        range("chimney ", ";", 0, 9);
        range("gutter 0 1 ", ";", 1, 9);
        range("cat ", " 1 1;", 0, 3);
        range("cat 2 ", " 1;", 1, 9);
        range("cat 2 1 ", ";", 1, 9);
        range("step ", " 0;", 0, 2);
        range("step 0 ", ";", 0, 1);
        range("claim ", ";", 0, 2);
        range("abandon ", ";", 0, 3);
        range("truce 0 1 ", " 1;", 1, 9);
        range("truce 0 1 1 ", ";", 1, 20);
        range("kitten ", " 1;", 1, 9);
        range("kitten 1 ", ";", 1, 9);
        range("kitten 1 1;yes ", ";", 0, 2);
        range("kitten 1 1;no ", ";", 0, 2);
        range("nights ", ";", 1, 30);
        range("repeat ", "();", 1, 20);
        range("repeat 1(repeat ", "(););", 1, 20);
        // A first number that is the second one is right itself: the second one is reported.
        for (int number = 0; number <= 4; number++) {
            Text.errorAt(2, SOME + (number == 4 ? "gutter ^4 3 1;" : number == 3 ? "gutter 3 ^3 1;" : "gutter " + number + " 3 1;gutter 0 ^4 1;"));
            Text.errorAt(2, SOME + (number >= 3 ? "chase ^" + number + " 2;" : number == 2 ? "chase 2 ^2;" : "chase " + number + " ^3;"));
            Text.errorAt(2, SOME + (number >= 3 ? "truce ^" + number + " 2 1 1;" : number == 2 ? "truce 2 ^2 1 1;" : "truce " + number + " ^3 1 1;"));
        }
        // On an empty roof no number of a chimney, a gutter or a cat exists.
        for (String word : new String[] {"gutter", "cat", "step", "claim", "abandon", "chase", "truce", "yes", "no"}) {
            Text.errorAt(2, "roof;" + word + " ^0 0 0 0;");
        }
        Text.errorAt(2, "roof;chimney 1;cat 0 1 1;step 0 ^0;");
        Text.errorAt(2, "roof;chimney 1;gutter 0 ^1 1;");
        Text.errorAt(2, "roof;chimney 1;cat 0 1 1;chase 0 ^1;");
    }

    /** "a second CHIMNEY that is the first one, and a second CAT that is the first one". */
    private static void sameNumbers() {
        for (int number = 0; number < 3; number++) {
            Text.errorAt(2, SOME + "gutter " + number + " ^" + number + " 1;");
            Text.errorAt(2, SOME + "gutter " + number + " ^00" + number + " 1;");
            Text.errorAt(2, SOME + "chase " + number + " ^" + number + ";");
            Text.errorAt(2, SOME + "truce " + number + " ^" + number + " 1 1;");
        }
        // Numbers of other kinds may be the same.
        Text.right("roof;chimney 1;chimney 1;gutter 0 1 1;gutter 1 0 1;cat 0 1 1;cat 1 1 1;truce 1 0 1 1;kitten 1 1;");
        Text.right("roof;chimney 0;chimney 1;gutter 1 0 1;cat 0 1 1;step 0 0;kitten 9 9;");
    }

    // ---- kind 3

    private static void roofRefusals() {
        Text.right("roof;repeat 10(chimney 1;);");
        Text.errorAt(3, "roof;repeat 10(chimney 1;);chimney 1^;");
        Text.right("roof;chimney 1;chimney 1;repeat 20(gutter 0 1 1;);");
        Text.errorAt(3, "roof;chimney 1;chimney 1;repeat 20(gutter 0 1 1;);gutter 0 1 1^;");
        Text.right(SEVEN + "cat 7 1 1;");
        Text.errorAt(3, SEVEN + "cat 7 1 1;cat 8 1 1^;");
        Text.errorAt(3, SEVEN + "cat 6 1 1^;");
        Text.errorAt(3, SEVEN + "cat 0 1 1^;");
    }

    private static void stepAndClaimRefusals() {
        String roof = "roof;repeat 7(chimney 1;);gutter 1 2 9;gutter 0 1 4;gutter 0 2 9;gutter 0 3 9;gutter 0 4 5;"
                + "cat 3 1 1;claim 0;step 0 3;step 0 2;cat 0 5 1;";
        for (int gutter = 0; gutter < 4; gutter++) {
            Text.errorAt(3, roof + "step 1 " + gutter + "^;");
        }
        Text.right(roof + "step 1 4;");
        Text.right(roof + "truce 1 0 1 1;step 1 3;");
        Text.errorAt(3, roof + "truce 1 0 1 1;nights 1;step 1 3^;");
        Text.right(roof + "step 0 0;step 1 2;");
        Text.right(roof + "abandon 3;step 1 3;");
        String three = "roof;repeat 5(chimney 1;);gutter 0 1 1;gutter 1 2 1;gutter 2 3 1;gutter 3 4 1;cat 0 1 1;claim 0;step 0 0;claim 0;step 0 1;claim 0;step 0 2;";
        Text.right(three + "claim 0;");
        Text.errorAt(3, three + "claim 0;step 0 3;claim 0^;");
        Text.right(three + "claim 0;step 0 3;abandon 0;claim 0;");
        Text.errorAt(3, three + "claim 0;claim 0^;");
        Text.errorAt(3, three + "cat 0 1 1;claim 1^;");
        Text.right(three + "abandon 2;");
        Text.errorAt(3, three + "abandon 3^;");
        Text.errorAt(3, three + "abandon 2;abandon 2^;");
    }

    private static void chaseAndTruceRefusals() {
        String two = "roof;chimney 1;chimney 1;gutter 0 1 4;";
        Text.right(two + "cat 0 4 5;cat 1 1 4;chase 0 1;");
        Text.errorAt(3, two + "cat 0 5 5;cat 1 1 4;chase 0 1^;");
        Text.errorAt(3, two + "cat 0 4 5;cat 1 1 5;chase 0 1^;");
        Text.errorAt(3, two + "cat 0 4 5;cat 1 1 4;truce 0 1 1 1;chase 0 1^;");
        Text.right(two + "cat 0 4 5;cat 1 1 4;truce 0 1 1 1;nights 1;chase 0 1;");
        Text.errorAt(3, two + "cat 0 4 5;cat 1 1 3;claim 1;chase 0 1^;");
        Text.right(two + "cat 0 4 5;cat 1 1 3;claim 1;abandon 1;chase 0 1;");
        String cats = "roof;chimney 9;chimney 9;cat 0 1 1;cat 1 1 1;";
        Text.right(cats + "truce 0 1 5 1;");
        Text.errorAt(3, cats + "truce 0 1 6 1^;");
        Text.errorAt(3, cats + "truce 0 1 1 2;nights 1;truce 1 0 1 1^;");
        Text.right(cats + "truce 0 1 1 2;nights 2;truce 1 0 1 1;");
        Text.right(cats + "claim 0;claim 1;nights 30;nights 10;abandon 1;nights 3;truce 0 1 3 1;");
        Text.errorAt(3, cats + "claim 0;claim 1;nights 30;nights 10;abandon 1;nights 3;truce 0 1 4 1^;");
    }

    private static void kittenAndNightRefusals() {
        String cats = "roof;repeat 3(chimney 1;);cat 0 1 1;cat 1 1 1;";
        Text.right(cats + "kitten 1 1;");
        Text.errorAt(3, cats + "kitten 1 1;kitten 1 1^;");
        Text.right(cats + "kitten 1 1;yes 0;no 1;kitten 1 1;");
        Text.errorAt(3, "roof;chimney 1;kitten 1 1^;");
        Text.right(SEVEN + "kitten 1 1;");
        Text.errorAt(3, SEVEN + "cat 7 1 1;kitten 1 1^;");
        Text.errorAt(3, cats + "yes 0^;");
        Text.errorAt(3, cats + "no 1^;");
        Text.errorAt(3, cats + "kitten 1 1;yes 0;yes 0^;");
        Text.errorAt(3, cats + "kitten 1 1;yes 0;no 0^;");
        Text.errorAt(3, cats + "kitten 1 1;no 0;yes 0^;");
        Text.errorAt(3, cats + "kitten 1 1;no 0;no 1;no 1^;");
        Text.right(cats + "kitten 1 1;yes 1;yes 0;kitten 1 1;yes 2;");
        Check.that("night 999", Text.roof("roof;" + LAST_NIGHT).night(), 999);
        Text.errorAt(3, "roof;" + LAST_NIGHT + "nights 1^;");
        Text.errorAt(3, "roof;repeat 20(nights 30;);repeat 13(nights 30;);nights 10^;");
        Text.errorAt(3, "roof;repeat 2(repeat 20(nights 30^;););");
    }

    /** "the semicolon behind a command whose method would throw an IllegalStateException". */
    private static void placeOfRefusals() {
        Text.errorAt(3, "roof;chimney 1;abandon 0^;");
        Text.errorAt(3, "roof;chimney 1;abandon 0 ^;");
        Text.errorAt(3, "roof;chimney 1;abandon 0\n\n ^;chimney 10;");
        Text.errorAt(1, "roof;chimney 1;abandon 0^");
        Text.errorAt(1, "roof;chimney 1;abandon 0 ^)");
        Text.errorAt(2, "roof;chimney 1;abandon ^1;");
    }

    // ---- repeats, and the kinds 4 and 5

    /** "executes the commands in its parentheses N times (1 to 20)". */
    private static void repeats() {
        for (int times = 1; times <= 20; times++) {
            RooftopCats x = Text.roof("roof;repeat " + times + "(nights 1;nights 2;);nights 1;");
            Check.that("nights of " + times, x.night(), 3 * times + 1);
            RooftopCats y = Text.roof("roof;repeat 2(repeat " + times + "(nights 1;);nights 2;);");
            Check.that("nights of twice " + times, y.night(), 2 * times + 4);
            Check.that("nothing", Text.roof("roof;repeat " + times + "();").night(), 0);
        }
        Text.errorAt(2, "roof;repeat ^0(nights 1;);");
        Text.errorAt(2, "roof;repeat ^21(nights 1;);");
        Text.errorAt(2, "roof;repeat 20(repeat ^0(););");
        Text.errorAt(2, "roof;repeat 20(repeat ^21(););");
        Text.errorAt(1, "roof;repeat ^();");
        Text.errorAt(1, "roof;repeat 2^;");
        Text.errorAt(1, "roof;repeat 2()^");
        Text.errorAt(1, "roof;repeat 2(nights 1;)^nights 1;");
        Text.errorAt(1, "roof;repeat 2(nights 1;);^)");
        Text.errorAt(1, "roof;repeat 2^)nights 1;);");
        Text.errorAt(1, "roof;repeat 2(nights 1;^(;");
        Text.errorAt(1, "roof;repeat 2(^();");
    }

    /** "also if it is found in a later repetition": before what stands behind the repeat, and before its own end. */
    private static void laterRepetitions() {
        Text.errorAt(3, "roof;repeat 10(chimney 1;);repeat 1(chimney 1^;);");
        Text.errorAt(3, "roof;repeat 11(chimney 1^;);chimney 99;");
        Text.errorAt(3, "roof;repeat 2(repeat 6(chimney 1^;);) x");
        Text.errorAt(1, "roof;repeat 2(repeat 5(chimney 1;);) ^x");
        Text.errorAt(1, "roof;repeat 2(chimney 1; ^x);");
        Text.errorAt(3, "roof;chimney 1;cat 0 1 1;repeat 20(claim 0^;) claim");
        Text.errorAt(3, "roof;chimney 1;cat 0 1 1;repeat 2(repeat 2(claim 0^;)");
        Text.errorAt(1, "roof;chimney 1;cat 0 1 1;repeat 2(repeat 1(claim 0;)^");
        // A number that does not exist yet in the first repetition is reported there.
        Text.errorAt(2, "roof;repeat 2(abandon ^0;chimney 1;);");
        Text.right("roof;chimney 1;chimney 1;gutter 0 1 1;cat 0 1 1;repeat 20(step 0 0;);");
    }

    /** "the word repeat inside two other repeats". */
    private static void depth() {
        Text.right("roof;repeat 1();");
        Text.right("roof;repeat 1(repeat 1(););");
        Text.errorAt(4, "roof;repeat 1(repeat 1(^repeat 1();););");
        // One behind another is not one in another.
        Text.right("roof;repeat 1(repeat 1();repeat 1();repeat 1(););repeat 1(repeat 1(););repeat 1();");
        Text.errorAt(4, "roof;repeat 2(repeat 2(););repeat 2(repeat 2();repeat 2(nights 1; ^repeat 0 x");
        Text.errorAt(4, "roof;repeat 1(repeat 1(nights 1;^repeat");
    }

    /** "the first word of the command that would be the 201st one to be executed (a repeat itself does not count)". */
    private static void twoHundredCommands() {
        Check.that("200", Text.roof("roof;" + TWO_HUNDRED).night(), 200);
        Text.right("roof;repeat 20(repeat 9(nights 1;););repeat 19(nights 1;);nights 1;");
        Text.errorAt(5, "roof;repeat 20(repeat 9(nights 1;););repeat 19(nights 1;);nights 1; ^nights 1;");
        Text.right("roof;repeat 20(repeat 9(nights 1;););repeat 20(nights 1;);repeat 20();");
        Text.errorAt(5, "roof;repeat 20(repeat 9(nights 1;););repeat 20(nights 1;);repeat 20(^nights 1;);");
        Text.errorAt(5, "roof;repeat 20(repeat 5(^nights 1;nights 1;);nights 1;);");
        String[] words = {"chimney", "gutter", "cat", "step", "claim", "abandon", "chase", "truce", "kitten", "yes", "no", "nights"};
        for (String word : words) {
            Text.errorAt(5, "roof;" + TWO_HUNDRED + "^" + word + " 1;");
            Text.errorAt(5, "roof;" + TWO_HUNDRED + " \n^" + word);
        }
        Text.errorAt(1, "roof;" + TWO_HUNDRED + "repeat 1^");
        // The 200th one is executed.
        Text.errorAt(3, "roof;chimney 1;repeat 19(repeat 10(nights 1;););repeat 8(nights 1;);abandon 0^;");
        Text.errorAt(5, "roof;chimney 1;repeat 19(repeat 10(nights 1;););repeat 9(nights 1;);^abandon 0;");
    }

    /** "if several kinds of error apply to one token, the smallest kind is reported". */
    private static void smallestKind() {
        // 1 before 2: too many digits, and out of range.
        Text.errorAt(1, "roof;chimney ^9999;");
        // 1 before 3: a semicolon that comes too early, behind a command that would be refused.
        Text.errorAt(1, "roof;chimney 1;cat 0 1 1;claim 0;claim^;");
        // 1 before 4 and 5: a word that is no command here.
        Text.errorAt(1, "roof;repeat 1(repeat 1(nights ^repeat");
        Text.errorAt(1, "roof;repeat 1(repeat 1(^repeats 1();););");
        Text.errorAt(1, "roof;" + TWO_HUNDRED + "^roof;");
        Text.errorAt(1, "roof;" + TWO_HUNDRED + "^nightss 1;");
        Text.errorAt(1, "roof;" + TWO_HUNDRED + "^1;");
        Text.errorAt(1, "roof;" + TWO_HUNDRED + "^);");
        // 4 behind 200 commands: a repeat does not count.
        Text.errorAt(4, "roof;" + TWO_HUNDRED + "repeat 1(repeat 1(^repeat");
        Text.errorAt(2, "roof;" + TWO_HUNDRED + "repeat ^21");
    }
}
