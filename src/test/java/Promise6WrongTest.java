import java.util.Random;
import java.util.regex.Matcher;
import java.util.regex.Pattern;

/** Promise 6: wrong, and where a FORMAT is WRONG (term 1). */
public final class Promise6WrongTest {
    private static final String KINDS = "diuoxXceEfFgGaA%";
    private static final Pattern FRONT = Pattern.compile("%[-+ #0]*+(\\*|[1-9][0-9]{0,2}+)?+(?:\\.(\\*|[0-9]{0,3}+))?+");

    public static void main(String[] args) {
        Desk test = new Desk();
        everyLetterBehindPercent(test);
        flagsWidthAndPrecision(test);
        foreignLettersComeFirst(test);
        itTellsOfTheLatestRun(test);
        manyFormats(test);
        test.end();
    }

    private static void everyLetterBehindPercent(Desk test) {
        for (char letter = 32; letter <= 126; letter++) {
            if (KINDS.indexOf(letter) >= 0) {
                FormatDesk desk = Desk.desk("ab%" + letter);
                desk.run();
                test.same("wrong() of %" + letter, desk.wrong(), -1);
            } else if ("-+ #0123456789.*".indexOf(letter) >= 0) {
                test.isWrong(4, "ab%" + letter);
            } else {
                test.isWrong(3, "ab%" + letter + "d");
            }
        }
    }

    private static void flagsWidthAndPrecision(Desk test) {
        test.isWrong(1, "%");
        test.isWrong(7, "abc%d %");
        test.isWrong(5, "%-+ #");
        test.isWrong(2, "%5-d");
        test.isWrong(2, "%5*d");
        test.isWrong(2, "%*5d");
        test.isWrong(2, "%*0d");
        test.isWrong(2, "%**d");
        test.isWrong(2, "%.-5d");
        test.isWrong(3, "%.5*d");
        test.isWrong(3, "%.*5d");
        test.isWrong(3, "%.5.5d");
        test.isWrong(2, "%..d");
        test.isWrong(3, "%.*");
        test.isWrong(1, "%ld");
        test.isWrong(1, "%201d");
        test.isWrong(1, "%999");
        test.isWrong(3, "%0-201d");
        test.isWrong(1, "%2010d");
        test.isWrong(4, "%2000d");
        test.isWrong(4, "%1999d");
        test.isWrong(2, "%.201d");
        test.isWrong(2, "%.2011d");
        test.isWrong(5, "%.0201d");
        test.isWrong(5, "%.0000d");
        test.isWrong(5, "%.2000d");
        test.isWrong(1, "%201.201d");
        test.isWrong(5, "%200.201d");
        test.isWrong(3, "%1.999");
        test.isWrong(2, "%-y");
        test.makes("7", "%.000d", 7);
        test.makes("007", "%.003d", 7);
        test.makes(" ".repeat(199) + "7", "%200d", 7);
        test.makes("0".repeat(199) + "7", "%.200d", 7);
        test.makes("    7", "%5.d", 7);
        test.makes("+0007", "%00000++#5d", 7);
    }

    private static void foreignLettersComeFirst(Desk test) {
        test.isWrong(3, "%k \u0001");
        test.isWrong(0, "\u001f%k");
        test.isWrong(2, "%k\u007f\u0001");
        test.isWrong(4, "%999\u0080");
        test.isWrong(1, "a\u00ff");
        test.isWrong(1, "%\n");
        FormatDesk longest = Desk.desk("a".repeat(399) + "%");
        test.fails("run()", IllegalArgumentException.class, () -> longest.run());
        test.same("the end of 400", longest.wrong(), 400);
    }

    private static void itTellsOfTheLatestRun(Desk test) {
        FormatDesk desk = Desk.desk("x%");
        test.same("before the first run", desk.wrong(), -1);
        test.fails("run()", IllegalArgumentException.class, () -> desk.run());
        test.same("wrong()", desk.wrong(), 2);
        test.same("wrong() again", desk.wrong(), 2);
        Desk.write(desk, "d");
        test.same("text() leaves it", desk.wrong(), 2);
        desk.argument(5);
        test.same("argument() leaves it", desk.wrong(), 2);
        desk.run();
        test.same("the next run", desk.wrong(), -1);
        Desk.write(desk, "%200d".repeat(20));
        test.fails("too long", UnsupportedOperationException.class, () -> desk.run());
        test.same("too long is not WRONG", desk.wrong(), -1);
    }

    private static void manyFormats(Desk test) {
        Random random = new Random(7);
        String letters = "%%%%%....*-+ #0012012345dddfgxky";
        for (int n = 0; n < 20000; n++) {
            StringBuilder format = new StringBuilder();
            int size = 1 + random.nextInt(14);
            for (int i = 0; i < size; i++) {
                format.append(letters.charAt(random.nextInt(letters.length())));
            }
            FormatDesk desk = Desk.desk(format.toString());
            try {
                desk.run();
            } catch (IllegalArgumentException e) {
                test.same("letters after WRONG", desk.count(4), 0);
            }
            test.same("wrong() of \"" + format + "\"", desk.wrong(), placeOfWrong(format.toString()));
        }
    }

    private static int placeOfWrong(String format) {
        Matcher front = FRONT.matcher(format);
        for (int at = format.indexOf('%'); at >= 0; at = format.indexOf('%', front.end() + 1)) {
            front.region(at, format.length());
            front.lookingAt();
            for (int group = 1; group <= 2; group++) {
                String number = front.group(group);
                if (number != null && number.matches("[0-9]+") && Integer.parseInt(number) > 200) {
                    return front.start(group);
                }
            }
            if (front.end() == format.length() || KINDS.indexOf(format.charAt(front.end())) < 0) {
                return front.end();
            }
        }
        return -1;
    }
}
