import java.util.Random;

/** Scripts made by chance, held against a reader that calls the methods of another object. */
public final class ScriptWalkTest {
    private static final String[] WORDS = {"chimney", "gutter", "cat", "step", "claim", "abandon", "chase", "truce", "kitten", "yes", "no",
        "nights", "repeat", "roof", "cats"};
    private static final int[] NUMBERS = {1, 3, 3, 2, 1, 1, 2, 4, 2, 1, 1, 1};

    private static final int[] seen = new int[6];

    public static void main(String[] args) {
        Random random = new Random(7);
        for (int i = 0; i < 6000; i++) {
            String text = script(random);
            if (text.length() <= 600) {
                compare(text);
            }
        }
        for (int kind = 0; kind < seen.length; kind++) {
            Check.that("scripts with error kind " + kind + " are enough", seen[kind] > 20, true);
        }
        System.out.println("scripts by error kind: " + java.util.Arrays.toString(seen));
        Check.end("ScriptWalkTest");
    }

    static String script(Random random) {
        StringBuilder text = new StringBuilder("roof;");
        if (random.nextInt(4) > 0) {
            text.append("chimney 9;chimney 3;chimney 6;gutter 0 1 8;gutter 1 2 9;cat 0 3 4;cat 1 2 9;");
        }
        if (random.nextInt(4) == 0) {
            // Near the 200 commands.
            text.append("repeat 19(repeat 10(nights 1;););");
        }
        statements(random, text, 1 + random.nextInt(10), 0);
        if (random.nextInt(5) == 0) {
            int place = random.nextInt(text.length());
            String signs = "; ()\n1a0-z";
            text.setCharAt(place, signs.charAt(random.nextInt(signs.length())));
        }
        if (random.nextInt(10) == 0) {
            text.setLength(random.nextInt(text.length() + 1));
        }
        return text.toString();
    }

    private static void statements(Random random, StringBuilder text, int count, int depth) {
        for (int i = 0; i < count; i++) {
            if (random.nextInt(5) == 0 && depth < 3) {
                text.append("repeat ").append(random.nextInt(3) == 0 ? random.nextInt(22) : 1 + random.nextInt(3)).append("(");
                statements(random, text, random.nextInt(4), depth + (depth == 2 && random.nextInt(4) > 0 ? 0 : 1));
                text.append(");");
            } else {
                int word = random.nextInt(60) == 0 ? 12 + random.nextInt(3) : random.nextInt(3) == 0 ? 11 : random.nextInt(12);
                text.append(WORDS[word]);
                for (int j = 0; j < (word < 12 ? NUMBERS[word] : 1); j++) {
                    int number = random.nextInt(12) == 0 ? random.nextInt(40) : random.nextInt(3);
                    text.append(random.nextInt(6) == 0 ? " 00" : random.nextInt(9) == 0 ? "\n " : " ").append(number);
                }
                text.append(random.nextInt(20) == 0 ? " ;\n" : ";");
            }
        }
    }

    private static void compare(String text) {
        RooftopCats x = new RooftopCats();
        String before = Look.atRoof(x);
        int cats = Text.run(x, text);
        Reading reading = new Reading(text);
        String due = "0 -1";
        try {
            reading.script();
        } catch (Found found) {
            due = found.kind + " " + found.offset;
        }
        Check.that("error of " + text, x.scriptErrorKind() + " " + x.scriptErrorOffset(), due);
        boolean right = x.scriptErrorKind() == 0;
        Check.that("cats of " + text, cats, right ? reading.y.catCount() : RooftopCats.NONE);
        Check.that("roof of " + text, Look.atRoof(x), right ? Look.atRoof(reading.y) : before);
        seen[x.scriptErrorKind()]++;
    }

    private static final class Found extends RuntimeException {
        private static final long serialVersionUID = 1L;
        final int kind;
        final int offset;

        Found(int kind, int offset) {
            super(null, null, false, false);
            this.kind = kind;
            this.offset = offset;
        }
    }

    /** Reads by recursion, and finds what is refused by calling the methods. */
    private static final class Reading {
        final RooftopCats y = new RooftopCats();
        private final String text;
        private int at = 0;
        private int start = 0;
        private int executed = 0;

        Reading(String text) {
            this.text = text;
            Text.run(y, "roof;");
        }

        /** The next token, or an empty text at the end; a token of no kind is "?". */
        private String token() {
            while (at < text.length() && " \n".indexOf(text.charAt(at)) >= 0) {
                at++;
            }
            start = at;
            String rest = text.substring(at);
            if (rest.isEmpty()) {
                return "";
            }
            String word = rest.replaceAll("(?s)^([a-z]+|[0-9]+|[();]).*$", "$1");
            if (!rest.matches("(?s)^[a-z0-9();].*$") || word.matches("[0-9]{4,}")) {
                return "?";
            }
            at += word.length();
            return word;
        }

        private void expect(String due) {
            if (!token().equals(due)) {
                throw new Found(1, start);
            }
        }

        void script() {
            expect("roof");
            expect(";");
            body(0);
        }

        private void body(int depth) {
            for (String word = token(); !word.isEmpty(); word = token()) {
                if (word.equals(")") && depth > 0) {
                    return;
                }
                int command = java.util.Arrays.asList(WORDS).subList(0, 13).indexOf(word);
                if (command < 0) {
                    throw new Found(1, start);
                }
                if (command == 12) {
                    repeat(depth);
                } else {
                    command(command);
                }
            }
            if (depth > 0) {
                throw new Found(1, start);
            }
        }

        private void repeat(int depth) {
            if (depth == 2) {
                throw new Found(4, start);
            }
            int count = number();
            check(count >= 1 && count <= 20);
            expect("(");
            int from = at;
            for (int i = 0; i < count; i++) {
                at = from;
                body(depth + 1);
            }
            expect(";");
        }

        private int number() {
            String token = token();
            if (!token.matches("[0-9]{1,3}")) {
                throw new Found(1, start);
            }
            return Integer.parseInt(token);
        }

        private void check(boolean right) {
            if (!right) {
                throw new Found(2, start);
            }
        }

        private void command(int command) {
            if (executed == 200) {
                throw new Found(5, start);
            }
            int[] n = new int[NUMBERS[command]];
            for (int i = 0; i < n.length; i++) {
                n[i] = number();
                check(isRight(command, i, n));
            }
            expect(";");
            try {
                make(command, n);
            } catch (IllegalStateException e) {
                throw new Found(3, start);
            }
            executed++;
        }

        private boolean isRight(int command, int i, int[] n) {
            boolean chimney = n[i] < y.chimneyCount();
            boolean cat = n[i] < y.catCount();
            boolean size = n[i] >= 1 && n[i] <= 9;
            switch (command) {
                case 0: return n[i] <= 9;
                case 1: return i == 0 ? chimney : i == 1 ? chimney && n[1] != n[0] : size;
                case 2: return i == 0 ? chimney : size;
                case 3: return i == 0 ? cat : n[i] < y.gutterCount();
                case 5: return chimney;
                case 6: return cat && (i == 0 || n[1] != n[0]);
                case 7: return i == 0 ? cat : i == 1 ? cat && n[1] != n[0] : i == 2 ? size : n[i] >= 1 && n[i] <= 20;
                case 8: return size;
                case 11: return n[i] >= 1 && n[i] <= 30;
                default: return cat;
            }
        }

        private void make(int command, int[] n) {
            switch (command) {
                case 0: y.addChimney(n[0]); break;
                case 1: y.addGutter(n[0], n[1], n[2]); break;
                case 2: y.addCat(n[0], n[1], n[2]); break;
                case 3: y.step(n[0], n[1]); break;
                case 4: y.claim(n[0]); break;
                case 5: y.abandon(n[0]); break;
                case 6: y.chase(n[0], n[1]); break;
                case 7: y.buyTruce(n[0], n[1], n[2], n[3]); break;
                case 8: y.nominate(n[0], n[1]); break;
                case 9: y.vote(n[0], true); break;
                case 10: y.vote(n[0], false); break;
                default: y.passNights(n[0]); break;
            }
        }
    }
}
