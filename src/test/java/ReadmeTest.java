import java.io.IOException;
import java.nio.file.Files;
import java.nio.file.Path;
import java.util.regex.Matcher;
import java.util.regex.Pattern;

/** The lines of Java in README.md answer as the comments behind them say. */
public final class ReadmeTest {
    private static final Pattern BLOCK = Pattern.compile("```java\n(.*?)```", Pattern.DOTALL);
    private static final Pattern CALL = Pattern.compile("cats\\.(\\w+)\\((.*)\\); +// (throws \\w+|-?\\d+).*");
    private static final Pattern RUN = Pattern.compile("run\\(cats, \"(.*)\"\\); +// (-?\\d+).*");

    private static RooftopCats cats = null;
    private static int blocks = 0;

    public static void main(String[] args) throws IOException {
        String own = Files.readString(Path.of("src/test/java/ReadmeTest.java")).replaceAll("\n {4}", "\n");
        Matcher block = BLOCK.matcher(Files.readString(Path.of("README.md")));
        while (block.find()) {
            blocks++;
            if (block.group(1).startsWith("static ")) {
                Check.that("README's methods stand in this test", own.contains(block.group(1)), true);
            } else {
                block.group(1).lines().forEach(ReadmeTest::execute);
            }
        }
        Check.that("blocks of Java in README", blocks, 5);
        anyText();
        Check.end("ReadmeTest");
    }

    private static void execute(String line) {
        Matcher call = CALL.matcher(line);
        Matcher script = RUN.matcher(line);
        if (line.equals("RooftopCats cats = new RooftopCats();")) {
            cats = new RooftopCats();
        } else if (call.matches()) {
            Check.that(line, BookTest.answer(cats, call.group(1), numbers(call.group(2))), call.group(3));
        } else if (script.matches()) {
            Check.that(line, run(cats, script.group(1)), Integer.parseInt(script.group(2)));
        } else {
            Check.that(line, "not understood", "a call with its answer");
        }
    }

    private static Object[] numbers(String text) {
        String[] parts = text.isEmpty() ? new String[0] : text.split(", ");
        Object[] numbers = new Object[parts.length];
        for (int i = 0; i < parts.length; i++) {
            numbers[i] = Long.decode(parts[i]).intValue();
        }
        return numbers;
    }

    /** Texts of each length up to 600 bytes are brought in whole, whatever is in the buffer. */
    private static void anyText() {
        for (int length = 5; length <= 600; length++) {
            RooftopCats x = new RooftopCats();
            x.append(0, 0, 0, 0, 0);
            String text = "roof;" + " ".repeat(length - 5);
            Check.that("script of " + length + " bytes", run(x, text), 0);
            Check.that("error at the end", run(x, text.substring(0, length - 1) + (char) 255), RooftopCats.NONE);
            Check.that("offset", x.scriptErrorOffset(), length - 1);
        }
    }

    static int run(RooftopCats cats, String text) {
        cats.truncateInput(0);
        for (int i = 0; i < text.length(); i += 20) {
            cats.append(four(text, i), four(text, i + 4), four(text, i + 8), four(text, i + 12), four(text, i + 16));
        }
        cats.truncateInput(text.length());
        return cats.runScript();
    }

    static int four(String text, int from) {
        int value = 0;
        for (int i = from; i < from + 4; i++) {
            value = value << 8 | (i < text.length() ? text.charAt(i) : ' ');
        }
        return value;
    }
}
