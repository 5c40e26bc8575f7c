import java.math.BigInteger;
import java.util.Random;

/** Term 2: whole numbers, c and %. */
public final class Term2WholeNumbersTest {
    public static void main(String[] args) {
        Desk test = new Desk();
        test.check(Term2WholeNumbersTest::bases);
        test.check(Term2WholeNumbersTest::zerosUpToPrecision);
        test.check(Term2WholeNumbersTest::noDigits);
        test.check(Term2WholeNumbersTest::hashOfO);
        test.check(Term2WholeNumbersTest::hashOfX);
        test.check(Term2WholeNumbersTest::signs);
        test.check(Term2WholeNumbersTest::letter);
        test.check(Term2WholeNumbersTest::percent);
        test.check(Term2WholeNumbersTest::onlyLeftAndWidth);
        test.check(Term2WholeNumbersTest::manyNumbers);
        test.end();
    }

    private static void bases(Desk test) {
        test.sentence("Whole numbers (64 bits): d, i with sign; u, o, x, X without, in base 10, 8, 16 (X: great letters)");
        test.makes("42|-42|0|-1", "%d|%d|%i|%i", 42, -42, 0, -1);
        test.makes("9223372036854775807|-9223372036854775808", "%d|%d", Long.MAX_VALUE, Long.MIN_VALUE);
        test.makes("9223372036854775807|-9223372036854775808", "%i|%i", Long.MAX_VALUE, Long.MIN_VALUE);
        test.makes("-9223372036854775807|2147483648|-2147483649", "%d|%d|%d", -Long.MAX_VALUE, 1L << 31, -(1L << 31) - 1);
        test.makes("18446744073709551615|9223372036854775808|9223372036854775807|0", "%u|%u|%u|%u", -1, Long.MIN_VALUE, Long.MAX_VALUE, 0);
        test.makes("1777777777777777777777|1000000000000000000000|777777777777777777777|0", "%o|%o|%o|%o", -1, Long.MIN_VALUE,
            Long.MAX_VALUE, 0);
        test.makes("ffffffffffffffff|8000000000000000|7fffffffffffffff|0", "%x|%x|%x|%x", -1, Long.MIN_VALUE, Long.MAX_VALUE, 0);
        test.makes("FFFFFFFFFFFFFFFF|8000000000000000|123456789ABCDEF|0", "%X|%X|%X|%X", -1, Long.MIN_VALUE, 0x123456789abcdefL, 0);
        test.makes("DEADBEEF|deadbeef", "%X|%x", 0xdeadbeefL, 0xdeadbeefL);
        test.makes("7|8|9|10|11|12", "%o|%d|%u|%o|%o|%o", 7, 8, 9, 8, 9, 10);
        test.makes("9|a|f|10", "%x|%x|%x|%x", 9, 10, 15, 16);
    }

    private static void zerosUpToPrecision(Desk test) {
        test.sentence("the digits, zeros before them up to PRECISION (none: 1)");
        test.makes("7|07|007|-007", "%.1d|%.2d|%.3d|%.3d", 7, 7, 7, -7);
        test.makes("123|123|0123", "%.2d|%.3d|%.4d", 123, 123, 123);
        test.makes("0007|0007|0007|000a|000A", "%.4i|%.4u|%.4o|%.4x|%.4X", 7, 7, 7, 10, 10);
        test.makes("0|00|0|0|0|0", "%.1d|%.2d|%d|%u|%o|%x", 0, 0, 0, 0, 0, 0);
        test.makes("-" + "0".repeat(181) + "9223372036854775808", "%.200d", Long.MIN_VALUE);
        test.makes("0".repeat(178) + "1777777777777777777777", "%.200o", -1);
    }

    private static void noDigits(Desk test) {
        test.sentence("of 0 with PRECISION 0: no digits");
        test.makes("||||||", "%.0d|%.0i|%.0u|%.0o|%.0x|%.0X|", 0, 0, 0, 0, 0, 0);
        test.makes("1|1|-1|1", "%.0d|%.0u|%.0d|%.0x", 1, 1, -1, 1);
        test.makes("+| |     |     |", "%+.0d|% .0d|%5.0d|%-5.0d|", 0, 0, 0, 0);
        test.makes("    +|+    |", "%+05.0d|%-+5.0d|", 0, 0);
        test.same("run() puts out nothing", Desk.desk("%.0d").run(), 0);
    }

    private static void hashOfO(Desk test) {
        test.sentence("#: o: a 0 before them, if the first one is not 0 (or there is none)");
        test.makes("010|01777777777777777777777|01", "%#o|%#o|%#o", 8, -1, 1);
        test.makes("0|0|0|00", "%#o|%#.0o|%#.1o|%#.2o", 0, 0, 0, 0);
        test.makes("010|010|010|0010", "%#.1o|%#.2o|%#.3o|%#.4o", 8, 8, 8, 8);
        test.makes("  010|010  |00010|000", "%#5o|%-#5o|%#05o|%#03o", 8, 8, 8, 0);
        test.makes("    0|0    |", "%#5.0o|%-#5.0o|", 0, 0);
    }

    private static void hashOfX(Desk test) {
        test.sentence("x, X: 0x, 0X before them, if it is not 0");
        test.makes("0xff|0XFF|0x1|0X8000000000000000", "%#x|%#X|%#x|%#X", 255, 255, 1, Long.MIN_VALUE);
        test.makes("0|0|||000|0", "%#x|%#X|%#.0x|%#.0X|%#.3x|%#.1X", 0, 0, 0, 0, 0, 0);
        test.makes("0x00ff|0x000ff|0X000FF|  0x0ff", "%#.4x|%#07x|%#07X|%#07.3x", 255, 255, 255, 255);
        test.makes("   0xff|0xff   |0000000|0xff", "%#7x|%-#7x|%#07x|%#04x", 255, 255, 0, 255);
        test.makes("7|7|7", "%#d|%#i|%#u", 7, 7, 7);
    }

    private static void signs(Desk test) {
        test.sentence("In front - below 0; else + with the flag +, else a blank with the flag blank (d, i alone)");
        test.makes("+5|-5|+0|+1|-1", "%+d|%+d|%+i|%+i|%+d", 5, -5, 0, 1, -1);
        test.makes(" 5|-5| 0|-1", "% d|% d|% i|% i", 5, -5, 0, -1);
        test.makes("+5|+5|-5", "%+ d|% +d|%+ i", 5, 5, -5);
        test.makes("+9223372036854775807| 9223372036854775807", "%+d|% d", Long.MAX_VALUE, Long.MAX_VALUE);
        test.makes("5|5|5|5|5|5|5|5", "%+u|% u|%+o|% o|%+x|% x|%+X|% X", 5, 5, 5, 5, 5, 5, 5, 5);
        test.makes("+007| 007|-007", "%+.3d|% .3d|%+.3d", 7, 7, -7);
    }

    private static void letter(Desk test) {
        test.sentence("c: the letter of the lowest 7 bits; ? if these are not 32..126");
        for (int v = 0; v < 512; v++) {
            int seven = v & 127;
            String due = seven < 32 || seven > 126 ? "?" : String.valueOf((char) seven);
            test.makes(due, "%c", v);
            test.makes(due, "%c", v | Long.MIN_VALUE);
        }
        test.makes("?| |~|?|?", "%c|%c|%c|%c|%c", 31, 32, 126, 127, 128);
        test.makes("A|?|?|a|?", "%c|%c|%c|%c|%c", 0x4141414141414141L, -1, Long.MIN_VALUE, 'a' - 128, 1L << 32);
    }

    private static void percent(Desk test) {
        test.sentence("%: % itself");
        test.makes("%", "%%");
        test.makes("%%a%", "%%%%a%%", 65);
        test.makes("%".repeat(200), "%".repeat(400));
    }

    private static void onlyLeftAndWidth(Desk test) {
        test.sentence("flags, WIDTH and PRECISION of % and c but - and WIDTH change nothing (0 neither)");
        test.makes("    A|A    |    A|A    |", "%5c|%-5c|%05c|%-05c|", 65, 65, 65, 65);
        test.makes("A|A|A|A|A|A", "%+c|% c|%#c|%0c|%.0c|%.200c", 65, 65, 65, 65, 65, 65);
        test.makes("A|    A|A    |    A", "%1c|%5.3c|%*c|%+ #05.0c", 65, 65, -5, 65, 65);
        test.makes("    %|%    |    %|%    |", "%5%|%-5%|%05%|%-05%|");
        test.makes("%|%|%|%|%|%", "%+%|% %|%#%|%0%|%.0%|%.200%");
        test.makes("%|    %|%    |    %", "%1%|%5.3%|%*%|%+ #05.0%", -5);
        test.makes("    ?|?    |", "%05c|%-5c|", 0, 127);
    }

    private static void manyNumbers(Desk test) {
        test.sentence("Whole numbers (64 bits): d, i with sign; u, o, x, X without, in base 10, 8, 16 (X: great letters)");
        Random random = new Random(3);
        for (int n = 0; n < 4000; n++) {
            long v = random.nextLong() >> random.nextInt(64);
            BigInteger unsigned = new BigInteger(Long.toUnsignedString(v));
            int width = 1 + random.nextInt(40);
            test.makes(Long.toString(v), "%d", v);
            test.makes(unsigned + "|" + unsigned.toString(8) + "|" + unsigned.toString(16), "%u|%o|%x", v, v, v);
            test.makes(unsigned.toString(16).toUpperCase(), "%X", v);
            test.makes(String.format("%" + width + "d", v), "%" + width + "d", v);
            test.makes(String.format("%-" + width + "d", v), "%-" + width + "d", v);
            test.makes(String.format("%+0" + (width + 1) + "d", v), "%+0" + (width + 1) + "d", v);
        }
    }
}
