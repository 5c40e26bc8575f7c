import java.util.ArrayList;
import java.util.List;
import java.util.Random;

/** Term 1: what can stand in THE FORMAT, and where it is WRONG. */
public final class Term1FormatTest {
    private static final String FLAGS = "-+ #0";
    private static final String KINDS = "diuoxXceEfFgGaA%";

    public static void main(String[] args) {
        Desk test = new Desk();
        test.check(Term1FormatTest::foreignLetters);
        test.check(Term1FormatTest::flags);
        test.check(Term1FormatTest::width);
        test.check(Term1FormatTest::precision);
        test.check(Term1FormatTest::kinds);
        test.check(Term1FormatTest::tooLarge);
        test.check(Term1FormatTest::fourthDigit);
        test.check(Term1FormatTest::tooLargeAndFourthDigit);
        test.check(Term1FormatTest::zerosInFront);
        test.check(Term1FormatTest::firstThatCanNotStand);
        test.check(Term1FormatTest::theEnd);
        test.check(Term1FormatTest::otherLetters);
        test.check(Term1FormatTest::manyFormats);
        test.end();
    }

    private static void foreignLetters(Desk test) {
        test.sentence("up to 400 letters 32..126 (another one: WRONG at it, before anything else)");
        for (char octet = 1; octet <= 255; octet++) {
            if (octet < 32 || octet > 126) {
                test.isWrong(0, "" + octet);
                test.isWrong(3, "abc" + octet + "d");
                test.isWrong(1, "%" + octet);
                test.isWrong(6, "%d%k%z" + octet);
            } else if (octet != '%') {
                test.makes("a" + octet, "a" + octet);
            }
        }
        test.isWrong(2, "%k\u007f\u0001");
        test.isWrong(2, "%k\u001f\u0080");
        test.isWrong(4, "%999\u0080");
        test.isWrong(2, "%5\u001f");
        test.isWrong(3, "%5.\u007f");
        test.isWrong(2, "%%\u001f");
        test.isWrong(399, "a".repeat(399) + "\u007f");
        test.isWrong(399, "%" + "k".repeat(398) + "\u00ff");
        test.makes(" ~".repeat(200), " ~".repeat(200));
    }

    private static void flags(Desk test) {
        test.sentence("FLAGS (any of - + blank # 0, in any order, again and again)");
        for (String order : orders(FLAGS)) {
            test.makes("+7  |", "%" + order + "4d|", 7);
            test.makes("0xff  |", "%" + order + "6x|", 255);
            test.makes("+1.   |", "%" + order + "6.0f|", 0x3ff0000000000000L);
            test.isWrong(6, "%" + order);
        }
        for (String order : orders("+ #0")) {
            test.makes("+007|", "%" + order + "4d|", 7);
        }
        test.makes("+0007", "%00000++#5d", 7);
        test.makes("7   |", "%-0-0-0-04d|", 7);
        test.makes("+7", "%" + "+ #".repeat(132) + "d", 7);
        test.makes("-7", "%" + "0".repeat(398) + "d", -7);
        test.isWrong(400, "%" + "-".repeat(399));
        test.isWrong(2, "%5-d");
        test.isWrong(2, "%5+d");
        test.isWrong(2, "%5 d");
        test.isWrong(2, "%5#d");
        test.isWrong(2, "%.-d");
        test.isWrong(2, "%*0d");
    }

    private static List<String> orders(String letters) {
        List<String> orders = new ArrayList<>();
        if (letters.isEmpty()) {
            orders.add("");
        }
        for (int i = 0; i < letters.length(); i++) {
            for (String rest : orders(letters.substring(0, i) + letters.substring(i + 1))) {
                orders.add(letters.charAt(i) + rest);
            }
        }
        return orders;
    }

    private static void width(Desk test) {
        test.sentence("WIDTH (none, up to 3 digits, the first not 0, or *)");
        test.makes("7|", "%d|", 7);
        for (int width = 1; width <= 200; width++) {
            test.makes(" ".repeat(width - 1) + "7", "%" + width + "d", 7);
        }
        test.makes("07|", "%02d|", 7);
        test.makes("000000007|", "%009d|", 7);
        test.makes("0000000007|", "%010d|", 7);
        test.makes("    7|", "%*d|", 5, 7);
        test.isWrong(2, "%5*d");
        test.isWrong(2, "%*5d");
        test.isWrong(2, "%**d");
    }

    private static void precision(Desk test) {
        test.sentence("PRECISION (none, or \".\" with up to 3 digits, or none, which is 0, or *)");
        test.makes("0|2.500000", "%d|%f", 0, 0x4004000000000000L);
        test.makes("||", "%.d|%.0d|", 0, 0);
        test.makes("2|2|2|0x1p+1", "%.f|%.0f|%.g|%.a", 0x4004000000000000L, 0x4004000000000000L, 0x4004000000000000L,
            0x4004000000000000L);
        test.makes("    7|", "%5.d|", 7);
        for (int precision = 1; precision <= 200; precision++) {
            test.makes("0".repeat(precision - 1) + "7", "%." + precision + "d", 7);
        }
        test.makes("00007|", "%.*d|", 5, 7);
        test.isWrong(3, "%.5*d");
        test.isWrong(3, "%.*5d");
        test.isWrong(3, "%.**d");
        test.isWrong(2, "%..d");
        test.isWrong(3, "%.5.5d");
        test.isWrong(3, "%.*.d");
    }

    private static void kinds(Desk test) {
        test.sentence("and one letter: d i u o x X c e E f F g G a A %");
        for (char letter = 32; letter <= 126; letter++) {
            if (KINDS.indexOf(letter) >= 0) {
                FormatDesk desk = Desk.desk("ab%" + letter + "%5" + letter + "%.5" + letter);
                desk.run();
                test.same("wrong() of %" + letter, desk.wrong(), -1);
                test.same("directives of %" + letter, desk.count(3), 3);
            } else if ("-+ #0123456789.*".indexOf(letter) >= 0) {
                test.isWrong(4, "ab%" + letter);
            } else {
                test.isWrong(3, "ab%" + letter + "d");
                test.isWrong(5, "%-9.*" + letter);
            }
        }
        test.isWrong(1, "%ld");
        test.isWrong(1, "%D");
    }

    private static void tooLarge(Desk test) {
        test.sentence("WIDTH and PRECISION that are written are at most 200 (a larger one: WRONG at its first digit)");
        test.makes(" ".repeat(199) + "7", "%200d", 7);
        test.makes("0".repeat(199) + "7", "%.200d", 7);
        test.makes("0".repeat(200), "%200.200d", 0);
        for (int number = 201; number <= 999; number++) {
            test.isWrong(1, "%" + number + "d");
            test.isWrong(2, "%." + number + "d");
        }
        test.isWrong(1, "%201%");
        test.isWrong(1, "%999");
        test.isWrong(3, "%0-201d");
        test.isWrong(3, "%00201d");
        test.isWrong(1, "%201.201d");
        test.isWrong(5, "%200.201d");
        test.isWrong(3, "%*.201d");
        test.isWrong(3, "%1.999");
        test.isWrong(1, "%201k");
        test.isWrong(12, "%d%200.200d%201d");
    }

    private static void fourthDigit(Desk test) {
        test.sentence("a fourth digit can not stand there");
        for (char digit = '0'; digit <= '9'; digit++) {
            test.isWrong(4, "%100" + digit + "d");
            test.isWrong(4, "%200" + digit + "d");
            test.isWrong(4, "%199" + digit);
            test.isWrong(5, "%.100" + digit + "d");
            test.isWrong(5, "%.200" + digit + "d");
            test.isWrong(5, "%.000" + digit + "d");
        }
        test.isWrong(6, "%-01000d");
        test.isWrong(4, "%1000.201d");
    }

    private static void tooLargeAndFourthDigit(Desk test) {
        test.sentence("Of three digits above 200 and a fourth: at the first one.");
        test.isWrong(1, "%2010d");
        test.isWrong(1, "%9999d");
        test.isWrong(1, "%99999999d");
        test.isWrong(2, "%.2010d");
        test.isWrong(2, "%.9999");
        test.isWrong(4, "%5d%2011d");
        test.isWrong(6, "%-+05.2011d");
    }

    private static void zerosInFront(Desk test) {
        test.sentence("PRECISION may have 0s in front.");
        test.makes("||", "%.00d|%.000d|", 0, 0);
        test.makes("7|7|007|007", "%.01d|%.001d|%.03d|%.003d", 7, 7, 7, 7);
        test.makes("0".repeat(19) + "7", "%.020d", 7);
        test.isWrong(5, "%.0200d");
        test.isWrong(5, "%.0201d");
        test.isWrong(5, "%.0000d");
        test.isWrong(5, "%.0999d");
    }

    private static void firstThatCanNotStand(Desk test) {
        test.sentence("WRONG is the first letter that can not stand");
        test.isWrong(1, "%k%k");
        test.isWrong(3, "%d%q%201d");
        test.isWrong(5, "%%%%%y");
        test.isWrong(2, "%-y%");
        test.isWrong(2, "%5y");
        test.isWrong(2, "%.y");
        test.isWrong(3, "%.5y");
        test.isWrong(2, "%*y");
        test.isWrong(3, "%.*y");
        test.isWrong(8, "% 5.5d%-y");
        test.isWrong(5, "%5%|%k%");
    }

    private static void theEnd(Desk test) {
        test.sentence("(the end: how many letters)");
        for (String begun : new String[] {"%", "%-", "%5", "%55", "%200", "%*", "%.", "%.5", "%.200", "%.*", "%*.*", "%-+ #0200.200"}) {
            test.isWrong(begun.length(), begun);
            test.isWrong(begun.length() + 4, "ab%d" + begun);
            test.isWrong(400, "a".repeat(400 - begun.length()) + begun);
        }
    }

    private static void otherLetters(Desk test) {
        test.sentence("Other letters are put out as they are.");
        StringBuilder all = new StringBuilder();
        for (char letter = 32; letter <= 126; letter++) {
            if (letter != '%') {
                all.append(letter);
            }
        }
        test.makes(all.toString(), all.toString());
        test.makes("100%d", "%d%%d", 100);
        test.makes("a\\n5b", "a\\n%db", 5);
        test.makes("7d7*.5", "%dd%d*.5", 7, 7);
    }

    private static void manyFormats(Desk test) {
        test.sentence("WRONG is the first letter that can not stand");
        Random random = new Random(7);
        String letters = "%%%%%....*-+ #0012012345dddfgxky";
        for (int n = 0; n < 20000; n++) {
            StringBuilder format = new StringBuilder();
            int size = 1 + random.nextInt(14);
            for (int i = 0; i < size; i++) {
                format.append(letters.charAt(random.nextInt(letters.length())));
            }
            Model model = Model.of(format.toString());
            String due = model.run();
            FormatDesk desk = Desk.desk(format.toString());
            if (due.equals("throws.IllegalArgumentException")) {
                test.fails("run() of \"" + format + "\"", IllegalArgumentException.class, () -> desk.run());
            } else {
                test.same("run() of \"" + format + "\"", "" + desk.run(), due);
            }
            test.same("wrong() of \"" + format + "\"", "" + desk.wrong(), model.wrong());
        }
    }
}
