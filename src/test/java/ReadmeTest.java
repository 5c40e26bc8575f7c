import java.io.IOException;
import java.nio.file.Files;
import java.nio.file.Path;
import java.util.ArrayList;
import java.util.List;
import java.util.regex.MatchResult;
import java.util.regex.Pattern;

/** README.md: its code does what it says there, and its examples are as the class answers. */
public final class ReadmeTest {
    private static final Pattern CODE = Pattern.compile("```java\n(.*?)```", Pattern.DOTALL);
    private static final Pattern MADE = Pattern.compile("^\"(.*)\" of (.*) -> \"(.*)\"$", Pattern.MULTILINE);
    private static final Pattern WRONG = Pattern.compile("^\"(.*)\" at ([0-9]+)$", Pattern.MULTILINE);
    private static final String LETTERS = "diuoxXceEfFgGaA%";

    private static String readme;
    private static String source;

    public static void main(String[] args) throws IOException {
        readme = Files.readString(Path.of("README.md"));
        source = Files.readString(Path.of("src/test/java/ReadmeTest.java"));
        Desk test = new Desk();
        test.check(ReadmeTest::codeStandsHere);
        test.check(ReadmeTest::firstExample);
        test.check(ReadmeTest::wholeTexts);
        test.check(ReadmeTest::examples);
        test.check(ReadmeTest::wrongFormats);
        test.check(ReadmeTest::everyLetterAndCallIsTold);
        test.end();
    }

    private static List<MatchResult> found(Pattern pattern) {
        return pattern.matcher(readme).results().toList();
    }

    private static String withoutBlanks(String text) {
        return text.replaceAll("\\s+", "");
    }

    private static void codeStandsHere(Desk test) {
        test.sentence("README.md, Use: the code");
        List<MatchResult> blocks = found(CODE);
        test.same("blocks of code", blocks.size(), 2);
        for (MatchResult block : blocks) {
            test.same("the code is tried here: " + block.group(1), withoutBlanks(source).contains(withoutBlanks(block.group(1))), true);
        }
    }

    private static void firstExample(Desk test) {
        test.sentence("README.md, Use: the first example");
        FormatDesk desk = new FormatDesk();
        desk.text(0x25352E3266000000L);                     // 5: the format "%5.2f"
        desk.argument(Double.doubleToRawLongBits(2.675));   // 1: a number's bits
        int size = desk.run();                              // 5
        long eight = desk.letters(0);                       // 0x20322E3637000000L: " 2.67"
        test.same("size", size, 5);
        test.same("eight", eight, 0x20322E3637000000L);
        test.same("the letters", Desk.out(desk), " 2.67");
        test.counts("then", desk, 5, 1, 1, 1, 5);
    }

    private static void wholeTexts(Desk test) {
        test.sentence("README.md, Use: whole texts go in and out by loops");
        for (int size = 0; size <= 40; size++) {
            String format = "the quick brown fox, %d lazy dogs & a %c".substring(40 - size);
            FormatDesk desk = new FormatDesk();
            write(desk, format);
            desk.run();
            test.same("count(0) of " + format, desk.count(0), size);
            test.same("read() of " + format, read(desk), Model.made(format));
        }
        FormatDesk full = new FormatDesk();
        write(full, "%200d".repeat(20));
        full.run();
        test.same("read() of 4000 letters", read(full), (" ".repeat(199) + "0").repeat(20));
    }

    static void write(FormatDesk desk, String format) {
        for (int i = 0; i < format.length(); i += 8) {
            long eight = 0;
            for (int j = i; j < i + 8; j++) {
                eight = eight << 8 | (j < format.length() ? format.charAt(j) : 0);
            }
            desk.text(eight);
        }
    }

    static String read(FormatDesk desk) {
        int size = desk.count(4);
        StringBuilder letters = new StringBuilder();
        for (int k = 0; 8 * k < size; k++) {
            long eight = desk.letters(k);
            for (int i = 8 * k; i < size && i < 8 * k + 8; i++) {
                letters.append((char) (eight >>> (56 - 8 * (i % 8)) & 255));
            }
        }
        return letters.toString();
    }

    private static void examples(Desk test) {
        test.sentence("README.md, The format: the examples");
        for (MatchResult example : found(MADE)) {
            test.makes(example.group(3), example.group(1), numbers(example.group(2)));
        }
    }

    private static long[] numbers(String written) {
        List<Long> numbers = new ArrayList<>();
        for (String number : written.split(", ")) {
            numbers.add(number.contains(".") ? Double.doubleToRawLongBits(Double.parseDouble(number)) : Long.parseLong(number));
        }
        return numbers.stream().mapToLong(Long::longValue).toArray();
    }

    private static void wrongFormats(Desk test) {
        test.sentence("README.md, The format: these formats are wrong");
        for (MatchResult example : found(WRONG)) {
            test.isWrong(Integer.parseInt(example.group(2)), example.group(1).replace("\\u007F", "\u007f"));
        }
    }

    private static void everyLetterAndCallIsTold(Desk test) {
        test.sentence("README.md says how to use the class");
        for (char letter : LETTERS.toCharArray()) {
            test.same("tells of the directive " + letter, readme.contains("`" + letter + "`"), true);
            boolean has = found(MADE).stream().anyMatch(example -> example.group(1).matches(".*%[-+ #0]*[0-9*]*[.]?[0-9*]*" + letter + ".*"));
            test.same("has an example of " + letter, has, true);
        }
        for (String call : new String[] {"text(w)", "argument(v)", "clear()", "run()", "wrong()", "letters(k)", "count(what)"}) {
            test.same("tells of " + call, readme.contains("| `" + call + "` |"), true);
        }
        test.same("how to run the tests", readme.contains("\n.ci/run\n"), true);
    }
}
