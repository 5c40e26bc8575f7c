import java.math.BigInteger;

/** Term 3: floating-point numbers and what fills a directive up, with answers written by hand from the document. */
public final class Term3FloatingTest {
    private static final double LARGEST = Double.MAX_VALUE;
    private static final double SMALLEST = Double.MIN_VALUE;
    private static final double SMALLEST_WITH_EXPONENT_BITS = Double.MIN_NORMAL;
    private static final long MINUS = Long.MIN_VALUE;
    private static final long INFINITE = 0x7ff0000000000000L;
    private static final long NONE = 0x7ff8000000000000L;
    private static final long ONE = 0x3ff0000000000000L;

    public static void main(String[] args) {
        Desk test = new Desk();
        test.check(Term3FloatingTest::exactly);
        test.check(Term3FloatingTest::sign);
        test.check(Term3FloatingTest::infiniteAndNone);
        test.check(Term3FloatingTest::noPrecision);
        test.check(Term3FloatingTest::fixed);
        test.check(Term3FloatingTest::withExponent);
        test.check(Term3FloatingTest::exponentDigits);
        test.check(Term3FloatingTest::halfway);
        test.check(Term3FloatingTest::generalOfPrecisionZero);
        test.check(Term3FloatingTest::generalChooses);
        test.check(Term3FloatingTest::generalZerosGo);
        test.check(Term3FloatingTest::hexadecimal);
        test.check(Term3FloatingTest::hexadecimalRounded);
        test.check(Term3FloatingTest::hexadecimalPoint);
        test.check(Term3FloatingTest::hexadecimalExponent);
        test.check(Term3FloatingTest::greatLetters);
        test.check(Term3FloatingTest::filledUp);
        test.check(Term3FloatingTest::filledUpWithZeros);
        test.end();
    }

    private static void exactly(Desk test) {
        test.sentence("floating-point numbers are written exactly as they are, and rounded once");
        test.makesOfNumber("0.1000000000000000055511151231257827021181583404541015625000", "%.58f", 0.1);
        test.makesOfNumber("0.1000000000000000055511151231257827021181583404541015625", "%.200g", 0.1);
        test.makesOfNumber("123456789012345683968.0", "%.1f", 123456789012345680000.0);
        test.makesOfNumber("1797693134862315708145274237317043567980705675258449965989174768031572607800285387605895586327668781"
            + "7154045895351438246423432132688946418276846754670353751698604991057655128207624549009038932894407586"
            + "8508455133942304583236903222948165808559332123348274797826204144723168738177180919299881250404026184"
            + "124858368.000000",
            "%f", LARGEST);
        // Rounded twice, first to the digits that one writes for them, these would go up.
        test.makesOfNumber("2.67", "%.2f", 2.675);
        test.makesOfNumber("0.1", "%.1f", 0.15);
        test.makesOfNumber("0.3", "%.1f", 0.35);
        test.makesOfNumber("4.3e+00", "%.1e", 4.35);
        test.makesOfNumber("4.3", "%.2g", 4.35);
        test.makesOfNumber("0", "%.0f", 0.49999999999999994);
        test.makesOfNumber("1", "%.0f", 0.5000000000000001);
        test.makesOfNumber("4.9406564584124654e-324", "%.16e", SMALLEST);
        test.makesOfNumber("0." + "0".repeat(200), "%.200f", SMALLEST);
        test.makesOfNumber("1.25" + "0".repeat(198) + "e+00", "%.200e", 1.25);
    }

    private static void sign(Desk test) {
        test.sentence("Sign as above (- if its bit is set, also of 0; of nan, too)");
        for (String kind : new String[] {"e", "f", "g", "a"}) {
            String zero = Desk.made("%" + kind, 0);
            test.makes("-" + zero + "|" + zero, "%" + kind + "|%" + kind, MINUS, 0);
            test.makes("+" + zero + "| " + zero, "%+" + kind + "|% " + kind, 0, 0);
            test.makes("-" + zero + "|-" + zero, "%+" + kind + "|% " + kind, MINUS, MINUS);
            test.makes("+" + zero, "%+ " + kind, 0);
            test.makes("nan|-nan|+nan| nan|-nan", "%" + kind + "|%" + kind + "|%+" + kind + "|% " + kind + "|%+" + kind, NONE,
                NONE | MINUS, NONE, NONE, -1);
            test.makes("inf|-inf|+inf| inf|-inf", "%" + kind + "|%" + kind + "|%+" + kind + "|% " + kind + "|% " + kind, INFINITE,
                INFINITE | MINUS, INFINITE, INFINITE, INFINITE | MINUS);
        }
        test.makesOfNumber("-0.0", "%.1f", -0.01);
        test.makesOfNumber("-0x0p-1022", "%.0a", -SMALLEST);
        test.makesOfNumber("-1.5", "%g", -1.5);
    }

    private static void infiniteAndNone(Desk test) {
        test.sentence("Infinite: inf; none: nan (E F G A: INF, NAN)");
        test.makes("inf inf inf inf", "%f %e %g %a", INFINITE, INFINITE, INFINITE, INFINITE);
        test.makes("INF INF INF INF", "%F %E %G %A", INFINITE, INFINITE, INFINITE, INFINITE);
        test.makes("nan nan nan nan", "%f %e %g %a", NONE, NONE, NONE, NONE);
        test.makes("NAN NAN NAN NAN", "%F %E %G %A", NONE, NONE, NONE, NONE);
        test.makes("nan nan -nan", "%f %f %f", INFINITE | 1, Long.MAX_VALUE, -1);
        test.makes("0x1.fffffffffffffp+1023 inf", "%a %a", INFINITE - 1, INFINITE);
        test.makes("inf inf nan nan", "%#.0f %.200e %#.9g %.0a", INFINITE, INFINITE, NONE, NONE);
    }

    private static void noPrecision(Desk test) {
        test.sentence("with PRECISION P (none: 6; a: as many digits as it needs)");
        test.makesOfNumber("1.500000", "%f", 1.5);
        test.makesOfNumber("1.500000e+00", "%e", 1.5);
        test.makesOfNumber("1.23457", "%g", 1.23456789);
        test.makesOfNumber("1.00000", "%#g", 1.0);
        test.makesOfNumber("0x1p+0", "%a", 1.0);
        test.makesOfNumber("0x1.999999999999ap-4", "%a", 0.1);
        test.makesOfNumber("0x1.08p+0", "%a", 1.03125);
        test.makesOfNumber("0x1.0000000000001p+0", "%a", 1.0000000000000002);
    }

    private static void fixed(Desk test) {
        test.sentence("f: the digits before the point (0 at least), the point, P digits; no point if P is 0 (but with #)");
        test.makesOfNumber("0.5|", "%.1f|", 0.5);
        test.makesOfNumber("0.0|", "%.1f|", 0.0);
        test.makesOfNumber("0.001|", "%.3f|", 0.001);
        test.makesOfNumber("0.00|", "%.2f|", 0.001);
        test.makesOfNumber("4|", "%.0f|", 3.5);
        test.makesOfNumber("4|", "%.f|", 3.5);
        test.makesOfNumber("4.|", "%#.0f|", 3.5);
        test.makesOfNumber("0|", "%.0f|", 0.0);
        test.makesOfNumber("0.|", "%#.0F|", 0.0);
        test.makesOfNumber("3.5|", "%#.1f|", 3.5);
        test.makesOfNumber("10|", "%.0f|", 9.5);
        test.makesOfNumber("1000.00", "%.2f", 999.996);
        test.makesOfNumber("1000000.00", "%.2F", 1e6);
        test.makesOfNumber("0.000000", "%f", SMALLEST);
        test.makesOfNumber("100000000000000000000", "%.0f", 1e20);
    }

    private static void withExponent(Desk test) {
        test.sentence("e: one digit (not 0 but of 0), the point, P digits (likewise)");
        test.makesOfNumber("1.500000e+00", "%e", 1.5);
        test.makesOfNumber("0.000000e+00", "%e", 0.0);
        test.makesOfNumber("0.00e+00", "%.2e", 0.0);
        test.makesOfNumber("-0e+00", "%.0e", -0.0);
        test.makesOfNumber("0.E+00", "%#.0E", 0.0);
        test.makesOfNumber("2e+00", "%.0e", 1.5);
        test.makesOfNumber("2.e+00", "%#.0e", 1.5);
        test.makesOfNumber("1.5e+00", "%#.1e", 1.5);
        test.makesOfNumber("5.0e-01", "%.1e", 0.5);
        test.makesOfNumber("1e+01", "%.0e", 9.9);
        test.makesOfNumber("1.e+01", "%#.0e", 9.5);
        test.makesOfNumber("1.0000e+100", "%.4e", 9.99999e99);
        test.makesOfNumber("1.0e-09", "%.1e", 9.99e-10);
        test.makesOfNumber("5e-324", "%.0e", SMALLEST);
    }

    private static void exponentDigits(Desk test) {
        test.sentence("e, its sign + or -, the exponent with 2 digits at least (of 0: +00)");
        test.makesOfNumber("1e+00", "%.0e", 1.0);
        test.makesOfNumber("0e+00", "%.0e", 0.0);
        test.makesOfNumber("1e-01", "%.0e", 0.1);
        test.makesOfNumber("1e+09", "%.0e", 1e9);
        test.makesOfNumber("1e+10", "%.0e", 1e10);
        test.makesOfNumber("1e-10", "%.0e", 1e-10);
        test.makesOfNumber("1e+99", "%.0e", 1e99);
        test.makesOfNumber("1e-99", "%.0e", 1e-99);
        test.makesOfNumber("1e+100", "%.0e", 1e100);
        test.makesOfNumber("1e-100", "%.0e", 1e-100);
        test.makesOfNumber("1.797693E+308", "%E", LARGEST);
        test.makesOfNumber("2e+308", "%.0e", LARGEST);
        test.makesOfNumber("4.940656e-324", "%e", SMALLEST);
    }

    private static void halfway(Desk test) {
        test.sentence("Rounded to the nearest, of two the even digit.");
        String[] fixed = {"0", "2", "2", "4", "4", "6", "6", "8", "8", "10", "10"};
        for (int i = 0; i < fixed.length; i++) {
            test.makesOfNumber(fixed[i], "%.0f", i + 0.5);
            test.makesOfNumber("-" + fixed[i], "%.0f", -i - 0.5);
            test.makesOfNumber(String.valueOf(i), "%.0f", Math.nextDown(i + 0.5));
            test.makesOfNumber(String.valueOf(i + 1), "%.0f", Math.nextUp(i + 0.5));
        }
        test.makesOfNumber("0.1", "%.1f", 0.125);
        test.makesOfNumber("0.12", "%.2f", 0.125);
        test.makesOfNumber("0.38", "%.2f", 0.375);
        test.makesOfNumber("0.2", "%.1f", 0.25);
        test.makesOfNumber("0.8", "%.1f", 0.75);
        test.makesOfNumber("100", "%.0f", 99.5);
        test.makesOfNumber("98", "%.0f", 98.5);
        test.makesOfNumber("0.1", "%.1f", 0.05);
        test.makesOfNumber("0", "%.0f", 0.05);
        test.makesOfNumber("0.0", "%.1f", 0.005);
        test.makesOfNumber("6e+02", "%.0e", 650.0);
        test.makesOfNumber("7e+02", "%.0e", 651.0);
        test.makesOfNumber("8e+02", "%.0e", 750.0);
        test.makesOfNumber("8e+00", "%.0e", 8.5);
        test.makesOfNumber("1e+01", "%.0e", 9.5);
        test.makesOfNumber("1.2e+00", "%.1e", 1.25);
        test.makesOfNumber("1.4e+00", "%.1e", 1.35);
        test.makesOfNumber("1.8e+00", "%.1e", 1.75);
        test.makesOfNumber("2", "%.1g", 2.5);
        test.makesOfNumber("4", "%.1g", 3.5);
    }

    private static void generalOfPrecisionZero(Desk test) {
        test.sentence("g: P 0 is 1.");
        test.makesOfNumber("2|", "%.0g|", 2.5);
        test.makesOfNumber("2|", "%.g|", 2.5);
        test.makesOfNumber("9|", "%.0g|", 9.0);
        test.makesOfNumber("1e+01|", "%.0g|", 10.0);
        test.makesOfNumber("0|", "%.0g|", 0.0);
        test.makesOfNumber("0.|", "%#.0g|", 0.0);
        test.makesOfNumber("1.E+01|", "%#.0G|", 10.0);
        test.makes("2|", "%.*g|", 0, 0x4004000000000000L);
    }

    private static void generalChooses(Desk test) {
        test.sentence("X is the exponent that e with P - 1 would have: if it is -4 or more and below P: f with P - 1 - X, else e with P - 1");
        test.makesOfNumber("0", "%g", 0.0);
        test.makesOfNumber("0.0001", "%g", 0.0001);
        test.makesOfNumber("1e-05", "%g", 0.00001);
        test.makesOfNumber("0.0001", "%g", 0.000099999999);
        test.makesOfNumber("9.99999e-05", "%g", 0.0000999999);
        test.makesOfNumber("0.000123457", "%g", 0.000123456789);
        test.makesOfNumber("1.23457e-05", "%g", 0.0000123456789);
        test.makesOfNumber("100000", "%g", 100000.0);
        test.makesOfNumber("999999", "%g", 999999.0);
        test.makesOfNumber("1e+06", "%g", 1000000.0);
        test.makesOfNumber("1e+06", "%g", 999999.5);
        test.makesOfNumber("999999", "%g", 999999.4);
        test.makesOfNumber("1.00000e+06", "%#g", 999999.9);
        test.makesOfNumber("99999.9", "%g", 99999.9);
        test.makesOfNumber("1e+01", "%.1g", 9.5);
        test.makesOfNumber("9", "%.1g", 9.4);
        test.makesOfNumber("100", "%.3g", 100.0);
        test.makesOfNumber("1e+03", "%.3g", 999.5);
        test.makesOfNumber("1.2e+02", "%.2g", 120.0);
        test.makesOfNumber("1.23457e+08", "%g", 123456789.0);
        test.makesOfNumber("123456789", "%.9g", 123456789.0);
        test.makesOfNumber("1.2345679e+08", "%.8g", 123456789.0);
        test.makesOfNumber(BigInteger.TWO.pow(664).toString(), "%.200g", 0x1p664);
        test.makesOfNumber(BigInteger.TWO.pow(664).toString() + ".", "%#.200g", 0x1p664);
    }

    private static void generalZerosGo(Desk test) {
        test.sentence("without # zeros at the end behind the point go, and then the point, if nothing stands behind it");
        test.makesOfNumber("-0", "%g", -0.0);
        test.makesOfNumber("0.00000", "%#g", 0.0);
        test.makesOfNumber("0.5", "%g", 0.5);
        test.makesOfNumber("0.500000", "%#g", 0.5);
        test.makesOfNumber("120", "%g", 120.0);
        test.makesOfNumber("120.000", "%#g", 120.0);
        test.makesOfNumber("100000", "%g", 100000.0);
        test.makesOfNumber("100000.", "%#g", 100000.0);
        test.makesOfNumber("1e+10", "%g", 1e10);
        test.makesOfNumber("1.00000e+10", "%#g", 1e10);
        test.makesOfNumber("1.e+10", "%#.1g", 1e10);
        test.makesOfNumber("1.01e+10", "%g", 1.01e10);
        test.makesOfNumber("1.01", "%g", 1.01);
        test.makesOfNumber("1", "%.3g", 1.001);
        test.makesOfNumber("1.00", "%#.3g", 1.001);
        test.makesOfNumber("10", "%.3g", 9.999);
        test.makesOfNumber("1.5E-10", "%G", 1.5e-10);
        test.makesOfNumber("1", "%.200g", 1.0);
        test.makesOfNumber("1." + "0".repeat(199), "%#.200g", 1.0);
    }

    private static void hexadecimal(Desk test) {
        test.sentence("a: 0x, 1 (0 of 0, and if its exponent bits are 0), the point, hexadecimal digits of the fraction");
        test.makesOfNumber("0x1.8p+0", "%a", 1.5);
        test.makesOfNumber("0x1.8p+10", "%a", 1536.0);
        test.makesOfNumber("0x1.fffffffffffffp+1023", "%a", LARGEST);
        test.makesOfNumber("0x0p+0", "%a", 0.0);
        test.makesOfNumber("0x0.000p+0", "%.3a", 0.0);
        test.makesOfNumber("0x0.0000000000001p-1022", "%a", SMALLEST);
        test.makesOfNumber("0x0.fffffffffffffp-1022", "%a", SMALLEST_WITH_EXPONENT_BITS - SMALLEST);
        test.makesOfNumber("0x0.8p-1022", "%a", SMALLEST_WITH_EXPONENT_BITS / 2);
        test.makesOfNumber("0x1p-1022", "%a", SMALLEST_WITH_EXPONENT_BITS);
        test.makes("0x1.23456789abcdep+0", "%a", ONE | 0x23456789abcdeL);
    }

    private static void hexadecimalRounded(Desk test) {
        test.sentence("P of them, rounded likewise (the 1 may become 2, the 0 a 1), or 13 without zeros at the end");
        test.makesOfNumber("0x2p+0", "%.0a", 1.5);
        test.makesOfNumber("0x1p+0", "%.0a", Math.nextDown(1.5));
        test.makesOfNumber("0x2.0p+0", "%.1a", 1.98);
        test.makesOfNumber("0x2.000p+1023", "%.3a", LARGEST);
        test.makesOfNumber("0x2.000000000000p+1023", "%.12a", LARGEST);
        test.makesOfNumber("0x1.fffffffffffffp+1023", "%.13a", LARGEST);
        test.makesOfNumber("0x1.fffffffffffff0p+1023", "%.14a", LARGEST);
        test.makesOfNumber("0x0p-1022", "%.0a", SMALLEST);
        test.makesOfNumber("0x0p-1022", "%.0a", SMALLEST_WITH_EXPONENT_BITS / 2);
        test.makesOfNumber("0x1p-1022", "%.0a", SMALLEST_WITH_EXPONENT_BITS / 2 + SMALLEST);
        test.makesOfNumber("0x1.0p-1022", "%.1a", SMALLEST_WITH_EXPONENT_BITS - SMALLEST);
        test.makesOfNumber("0x1.0p+0", "%.1a", 1.03125);
        test.makesOfNumber("0x1.1p+0", "%.1a", Math.nextUp(1.03125));
        test.makesOfNumber("0x1.2p+0", "%.1a", 1.09375);
        test.makesOfNumber("0x1.1p+0", "%.1a", Math.nextDown(1.09375));
        test.makes("0x1.000000000000p+0", "%.12a", ONE | 8);
        test.makes("0x1.000000000001p+0", "%.12a", ONE | 9);
        test.makes("0x1.000000000002p+0", "%.12a", ONE | 0x18);
        test.makesOfNumber("0x1.8000000000000000p+0", "%.16a", 1.5);
        test.makesOfNumber("0x1." + "0".repeat(200) + "p+0", "%.200a", 1.0);
        test.makesOfNumber("0x1.99999999999ap-4", "%.12a", 0.1);
        test.makesOfNumber("0x1.999999999999ap-4", "%a", 0.1);
        test.makes("0x1.00000000001p+0", "%a", ONE | 0x100);
    }

    private static void hexadecimalPoint(Desk test) {
        test.sentence("no point without digits (but with #)");
        test.makesOfNumber("0x1p+0", "%a", 1.0);
        test.makesOfNumber("0x1.p+0", "%#a", 1.0);
        test.makesOfNumber("0x1p+0", "%.0a", 1.25);
        test.makesOfNumber("0x1.p+0", "%#.0a", 1.25);
        test.makesOfNumber("0x1.4p+0", "%#a", 1.25);
        test.makesOfNumber("-0x0.p+0", "%#a", -0.0);
        test.makesOfNumber("0x0.p+0", "%#.0a", 0.0);
    }

    private static void hexadecimalExponent(Desk test) {
        test.sentence("p, sign, the exponent in decimal digits (of 0: +0; if the exponent bits are 0: -1022)");
        test.makesOfNumber("0x1p+0", "%a", 1.0);
        test.makesOfNumber("0x1p-1", "%a", 0.5);
        test.makesOfNumber("0x1p+9", "%a", 0x1p9);
        test.makesOfNumber("0x1p+10", "%a", 0x1p10);
        test.makesOfNumber("0x1p-99", "%a", 0x1p-99);
        test.makesOfNumber("0x1p-100", "%a", 0x1p-100);
        test.makesOfNumber("0x1p+999", "%a", 0x1p999);
        test.makesOfNumber("0x1p+1000", "%a", 0x1p1000);
        test.makesOfNumber("0x1p+1023", "%a", 0x1p1023);
        test.makesOfNumber("0x1p-1022", "%a", 0x1p-1022);
        test.makesOfNumber("0x0.8p-1022", "%a", 0x1p-1023);
        test.makesOfNumber("0x0.0000000000001p-1022", "%a", SMALLEST);
        test.makesOfNumber("0x0p+0", "%a", 0.0);
        test.makesOfNumber("-0x0p+0", "%a", -0.0);
        test.makesOfNumber("0x0p-1022", "%.0a", SMALLEST);
    }

    private static void greatLetters(Desk test) {
        test.sentence("E G A: great letters for all of them (0X, P)");
        test.makesOfNumber("1.5E+00", "%.1E", 1.5);
        test.makesOfNumber("1E-10", "%G", 1e-10);
        test.makesOfNumber("0X1.ABCDEFP+0", "%A", 0x1.abcdefp0);
        test.makesOfNumber("0X1.FFFFFFFFFFFFFP+1023", "%A", LARGEST);
        test.makesOfNumber("0x1.abcdefp+0", "%a", 0x1.abcdefp0);
        test.makesOfNumber("1.5", "%.1F", 1.5);
        test.makes("0X1P+0 0x1p+0 1E+20 1e+20", "%A %a %G %g", ONE, ONE, 0x4415af1d78b58c40L, 0x4415af1d78b58c40L);
    }

    private static void filledUp(Desk test) {
        test.sentence("All: is it shorter than WIDTH, blanks come before it, or behind it with -");
        test.makes("123|123| 123|123 |", "%2d|%3d|%4d|%-4d|", 123, 123, 123, 123);
        test.makes("123|123|", "%-2d|%-3d|", 123, 123);
        test.makes("-1| -1|-1 |", "%2d|%3d|%-3d|", -1, -1, -1);
        test.makes(" 0xf|0xf | 017|017 |", "%#4x|%#-4x|%#4o|%#-4o|", 15, 15, 15, 15);
        test.makes("inf| inf|inf | nan|nan |", "%3f|%4f|%-4f|%4e|%-4a|", INFINITE, INFINITE, INFINITE, NONE, NONE);
        test.makesOfNumber("1.5|", "%3.1f|", 1.5);
        test.makesOfNumber(" 1.5|", "%4.1f|", 1.5);
        test.makesOfNumber("1.5 |", "%-4.1f|", 1.5);
        test.makesOfNumber("    -1.5|", "%8.1f|", -1.5);
        test.makesOfNumber("   1.5e+00|", "%10.1e|", 1.5);
        test.makesOfNumber("1.5e+00   |", "%-10.1e|", 1.5);
        test.makesOfNumber("       1.5|", "%10g|", 1.5);
        test.makesOfNumber("   -0x1.8p+0|", "%12a|", -1.5);
        test.makesOfNumber("-0x1.8p+0   |", "%-12a|", -1.5);
        test.makesOfNumber("1.5000000|", "%3.7f|", 1.5);
        test.makesOfNumber(" ".repeat(197) + "1.5", "%200.1f", 1.5);
        test.makesOfNumber("1." + "0".repeat(200), "%200.200f", 1.0);
    }

    private static void filledUpWithZeros(Desk test) {
        test.sentence("with the flag 0 (without -, not of inf and nan, of whole numbers not with a PRECISION) zeros behind the sign and 0x");
        test.makes("00007|-0007|+0007| 0007", "%05d|%05d|%+05d|% 05i", 7, -7, 7, 7);
        test.makes("00007|00007|00007|0000A", "%05u|%05o|%05x|%05X", 7, 7, 7, 10);
        test.makes("0x00a|0X00A|00012", "%#05x|%#05X|%#05o", 10, 10, 10);
        test.makes("7|-7|+7|0xa", "%01d|%02d|%+02d|%#03x", 7, -7, 7, 10);
        test.makes("7    |7    |0xa  |", "%-05d|%0-5d|%-0#5x|", 7, 7, 10);
        test.makes("    7|  007|-0007|  0xa|   07", "%05.0d|%05.3d|%05.4d|%#05.1x|%#05.1o", 7, 7, -7, 10, 7);
        test.makes("     inf|nan     |    -inf|    +nan|     INF", "%08f|%-08a|%08.3e|%+08g|%08A", INFINITE, NONE, INFINITE | MINUS,
            NONE, INFINITE);
        test.makesOfNumber("000001.5", "%08.1f", 1.5);
        test.makesOfNumber("-00001.5", "%08.1f", -1.5);
        test.makesOfNumber("+00001.5", "%+08.1f", 1.5);
        test.makesOfNumber(" 00001.5", "% 08.1f", 1.5);
        test.makesOfNumber("1.5     |", "%-08.1f|", 1.5);
        test.makesOfNumber("0001.5e+00", "%010.1e", 1.5);
        test.makesOfNumber("00000001.5", "%010g", 1.5);
        test.makesOfNumber("-0x0001.8p+0", "%012a", -1.5);
        test.makesOfNumber("+0X0001.8P+0", "%+012A", 1.5);
        test.makesOfNumber("0x1.8p+0", "%08a", 1.5);
        test.makesOfNumber("0x01.8p+0", "%09a", 1.5);
        test.makesOfNumber("-" + "0".repeat(196) + "1.5", "%0200.1f", -1.5);
    }
}
