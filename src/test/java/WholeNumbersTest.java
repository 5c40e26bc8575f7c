import java.math.BigInteger;
import java.util.Random;

/** Term 2: whole numbers, c and %. */
public final class WholeNumbersTest {
    public static void main(String[] args) {
        Desk test = new Desk();
        signed(test);
        unsigned(test);
        zero(test);
        letter(test);
        percent(test);
        manyNumbers(test);
        test.end();
    }

    private static void signed(Desk test) {
        test.makes("42|-42|0", "%d|%d|%i", 42, -42, 0);
        test.makes("9223372036854775807|-9223372036854775808", "%d|%i", Long.MAX_VALUE, Long.MIN_VALUE);
        test.makes("+5|-5|+0", "%+d|%+d|%+i", 5, -5, 0);
        test.makes(" 5|-5| 0", "% d|% d|% i", 5, -5, 0);
        test.makes("+5|+5", "%+ d|% +d", 5, 5);
        test.makes("007|-007|1234", "%.3d|%.3d|%.3d", 7, -7, 1234);
        test.makes("    7|7    |00007|7    ", "%5d|%-5d|%05d|%-05d", 7, 7, 7, 7);
        test.makes("-0007|+0007| 0007", "%05d|%+05d|% 05d", -7, 7, 7);
        test.makes("  007| -007|  007", "%05.3d|%05.3d|%05.3i", 7, -7, 7);
        test.makes("12345|12345", "%3d|%-3d", 12345, 12345);
        test.makes("7", "%#d", 7);
    }

    private static void unsigned(Desk test) {
        test.makes("18446744073709551615|9223372036854775808", "%u|%u", -1, Long.MIN_VALUE);
        test.makes("1777777777777777777777|1000000000000000000000", "%o|%o", -1, Long.MIN_VALUE);
        test.makes("ffffffffffffffff|8000000000000000", "%x|%x", -1, Long.MIN_VALUE);
        test.makes("DEADBEEF|deadbeef", "%X|%x", 0xdeadbeefL, 0xdeadbeefL);
        test.makes("5|5|5|5", "%+u|% o|%+x|% X", 5, 5, 5, 5);
        test.makes("010|0xff|0XFF|5", "%#o|%#x|%#X|%#u", 8, 255, 255, 5);
        test.makes("00010|0x000ff|0X000FF", "%#05o|%#07x|%#07X", 8, 255, 255);
        test.makes("  010|   0xff|0xff   |", "%#5o|%#7x|%-#7x|", 8, 255, 255);
        test.makes("  0x0ff|010|0010|010", "%#07.3x|%#.2o|%#.4o|%#.3o", 255, 8, 8, 8);
        test.makes("0x00ff", "%#.4x", 255);
    }

    private static void zero(Desk test) {
        test.makes("||||", "%.0d|%.u|%.0x|%.0X|", 0, 0, 0, 0);
        test.makes("|0|0|0", "%.0o|%#.0o|%#o|%#.1o", 0, 0, 0, 0);
        test.makes("0|0|", "%#x|%#X|%#.0x", 0, 0, 0);
        test.makes("+| |     |     ", "%+.0d|% .0d|%5.0d|%-5.0d", 0, 0, 0, 0);
        test.makes("    +|00000|000", "%+05.0d|%05d|%#03o", 0, 0, 0);
        test.makes("00", "%#.2o", 0);
    }

    private static void letter(Desk test) {
        for (int v = 0; v < 256; v++) {
            int seven = v & 127;
            String due = seven < 32 || seven > 126 ? "?" : String.valueOf((char) seven);
            test.makes(due, "%c", v);
        }
        test.makes("A|?|?", "%c|%c|%c", 0x4141414141414141L, -1, Long.MIN_VALUE);
        test.makes("    A|A    |    A|A", "%5c|%-5c|%05c|%+ #.0c", 65, 65, 65, 65);
        test.makes("A    |    A", "%*c|%5.3c", -5, 65, 65);
        test.makes("a", "%c", 'a');
    }

    private static void percent(Desk test) {
        test.makes("    %|%    |    %|%", "%5%|%-5%|%05%|%+ #0.9%");
        test.makes("%  |7", "%*%|%d", -3, 7);
    }

    private static void manyNumbers(Desk test) {
        Random random = new Random(3);
        for (int n = 0; n < 4000; n++) {
            long v = random.nextLong() >> random.nextInt(64);
            BigInteger unsigned = new BigInteger(Long.toUnsignedString(v));
            int width = 1 + random.nextInt(40);
            test.makes(Long.toString(v), "%d", v);
            test.makes(unsigned + "|" + unsigned.toString(8) + "|" + unsigned.toString(16), "%u|%o|%x", v, v, v);
            test.makes(unsigned.toString(16).toUpperCase(), "%X", v);
            test.makes(String.format("%" + width + "d", v), "%" + width + "d", v);
            test.makes(String.format("%-" + width + "d", v), "%-" + width + "d", v);
            test.makes(String.format("%+0" + (width + 1) + "d", v), "%+0" + (width + 1) + "d", v);
        }
    }
}
