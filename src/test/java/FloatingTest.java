/** Term 3: floating-point numbers, with answers written by hand from the document. */
public final class FloatingTest {
    private static final double LARGEST = Double.MAX_VALUE;
    private static final double SMALLEST = Double.MIN_VALUE;

    public static void main(String[] args) {
        Desk test = new Desk();
        fixed(test);
        withExponent(test);
        general(test);
        hexadecimal(test);
        notNumbers(test);
        filledUp(test);
        test.end();
    }

    private static void fixed(Desk test) {
        test.makesOfNumber("1.500000", "%f", 1.5);
        test.makesOfNumber("0.1000000000000000055511151231257827021181583404541015625000", "%.58f", 0.1);
        test.makesOfNumber("2.67", "%.2f", 2.675);
        test.makesOfNumber("0", "%.0f", 0.5);
        test.makesOfNumber("2", "%.0f", 1.5);
        test.makesOfNumber("2", "%.0f", 2.5);
        test.makesOfNumber("1", "%.0f", 0.5000000000000001);
        test.makesOfNumber("0", "%.0f", 0.05);
        test.makesOfNumber("0.1", "%.1f", 0.05);
        test.makesOfNumber("0.0", "%.1f", 0.005);
        test.makesOfNumber("0.2", "%.1f", 0.25);
        test.makesOfNumber("0.8", "%.1f", 0.75);
        test.makesOfNumber("10", "%.0f", 9.5);
        test.makesOfNumber("8", "%.0f", 8.5);
        test.makesOfNumber("1000.00", "%.2f", 999.996);
        test.makesOfNumber("4.", "%#.0f", 3.5);
        test.makesOfNumber("4", "%.f", 3.5);
        test.makesOfNumber("-0.000000", "%f", -0.0);
        test.makesOfNumber("-0.0", "%.1f", -0.01);
        test.makesOfNumber("0.", "%#.0F", 0.0);
        test.makesOfNumber("123456789012345683968.0", "%.1f", 123456789012345680000.0);
        test.makesOfNumber("0.000000", "%f", SMALLEST);
        test.makesOfNumber("1797693134862315708145274237317043567980705675258449965989174768031572607800285387605895586327668781"
            + "7154045895351438246423432132688946418276846754670353751698604991057655128207624549009038932894407586"
            + "8508455133942304583236903222948165808559332123348274797826204144723168738177180919299881250404026184"
            + "124858368.000000",
            "%f", LARGEST);
        test.makesOfNumber("1000000.00", "%.2F", 1e6);
    }

    private static void withExponent(Desk test) {
        test.makesOfNumber("1.500000e+00", "%e", 1.5);
        test.makesOfNumber("0.000000e+00", "%e", 0.0);
        test.makesOfNumber("-0e+00", "%.0e", -0.0);
        test.makesOfNumber("0.E+00", "%#.0E", 0.0);
        test.makesOfNumber("1.e+01", "%#.0e", 9.5);
        test.makesOfNumber("8e+00", "%.0e", 8.5);
        test.makesOfNumber("6e+02", "%.0e", 650.0);
        test.makesOfNumber("7e+02", "%.0e", 651.0);
        test.makesOfNumber("8e+02", "%.0e", 750.0);
        test.makesOfNumber("1e+01", "%.0e", 9.9);
        test.makesOfNumber("1.797693E+308", "%E", LARGEST);
        test.makesOfNumber("4.940656e-324", "%e", SMALLEST);
        test.makesOfNumber("4.9406564584124654e-324", "%.16e", SMALLEST);
        test.makesOfNumber("1.0000e+100", "%.4e", 9.99999e99);
        test.makesOfNumber("1.0e-09", "%.1e", 9.99e-10);
        test.makesOfNumber("1.2e+00", "%.1e", 1.25);
        test.makesOfNumber("1.4e+00", "%.1e", 1.35);
        test.makesOfNumber("1.8e+00", "%.1e", 1.75);
        test.makesOfNumber("1.25" + "0".repeat(198) + "e+00", "%.200e", 1.25);
    }

    private static void general(Desk test) {
        test.makesOfNumber("0", "%g", 0.0);
        test.makesOfNumber("-0", "%g", -0.0);
        test.makesOfNumber("0.00000", "%#g", 0.0);
        test.makesOfNumber("0.", "%#.0g", 0.0);
        test.makesOfNumber("0.0001", "%g", 0.0001);
        test.makesOfNumber("1e-05", "%g", 0.00001);
        test.makesOfNumber("0.0001", "%g", 0.000099999999);
        test.makesOfNumber("9.99999e-05", "%g", 0.0000999999);
        test.makesOfNumber("100000", "%g", 100000.0);
        test.makesOfNumber("1e+06", "%g", 1000000.0);
        test.makesOfNumber("1e+06", "%g", 999999.5);
        test.makesOfNumber("999999", "%g", 999999.4);
        test.makesOfNumber("1.00000e+06", "%#g", 999999.9);
        test.makesOfNumber("100000.", "%#g", 100000.0);
        test.makesOfNumber("1.E+01", "%#.1G", 10.0);
        test.makesOfNumber("1e+01", "%.0g", 10.0);
        test.makesOfNumber("9", "%.0g", 9.0);
        test.makesOfNumber("9", "%.g", 9.0);
        test.makesOfNumber("2", "%.0g", 2.5);
        test.makesOfNumber("1e+01", "%.1g", 9.5);
        test.makesOfNumber("0.5", "%g", 0.5);
        test.makesOfNumber("0.500000", "%#g", 0.5);
        test.makesOfNumber("100", "%.3g", 100.0);
        test.makesOfNumber("1.5E-10", "%G", 1.5e-10);
        test.makesOfNumber("120", "%g", 120.0);
        test.makesOfNumber("1.2e+02", "%.2g", 120.0);
        test.makesOfNumber("0.1000000000000000055511151231257827021181583404541015625", "%.200g", 0.1);
        test.makesOfNumber("1.23457e+08", "%g", 123456789.0);
    }

    private static void hexadecimal(Desk test) {
        test.makesOfNumber("0x1p+0", "%a", 1.0);
        test.makesOfNumber("0X1.FFFFFFFFFFFFFP+1023", "%A", LARGEST);
        test.makesOfNumber("0x0p+0", "%a", 0.0);
        test.makesOfNumber("-0x0.p+0", "%#a", -0.0);
        test.makesOfNumber("0x0.000p+0", "%.3a", 0.0);
        test.makesOfNumber("0x0.0000000000001p-1022", "%a", SMALLEST);
        test.makesOfNumber("0x0.8p-1022", "%a", Double.MIN_NORMAL / 2);
        test.makesOfNumber("0x1p-1022", "%a", Double.MIN_NORMAL);
        test.makesOfNumber("0x0p-1022", "%.0a", SMALLEST);
        test.makesOfNumber("0x0p-1022", "%.0a", Double.MIN_NORMAL / 2);
        test.makesOfNumber("0x1p-1022", "%.0a", Double.MIN_NORMAL * 0.75);
        test.makesOfNumber("0x1.0p-1022", "%.1a", Double.MIN_NORMAL - SMALLEST);
        test.makesOfNumber("0x1.p+0", "%#a", 1.0);
        test.makesOfNumber("0x2p+0", "%.0a", 1.5);
        test.makesOfNumber("0x1p+0", "%.0a", 1.46875);
        test.makesOfNumber("0x2.0p+0", "%.1a", 1.98);
        test.makesOfNumber("0x1.0p+0", "%.1a", 1.03125);
        test.makesOfNumber("0x1.2p+0", "%.1a", 1.09375);
        test.makesOfNumber("0x1.1p+0", "%.1a", 1.0312500000000002);
        test.makesOfNumber("0x1.8000000000000000p+0", "%.16a", 1.5);
        test.makesOfNumber("0x1.999999999999ap-4", "%.13a", 0.1);
        test.makesOfNumber("0x1.99999999999ap-4", "%.12a", 0.1);
        test.makesOfNumber("0x1.8p+10", "%a", 1536.0);
        test.makesOfNumber("0x1p-100", "%a", Math.pow(2, -100));
        test.makesOfNumber("0x1.08p+0", "%a", 1.03125);
    }

    private static void notNumbers(Desk test) {
        long infinite = 0x7ff0000000000000L;
        long quiet = 0x7ff8000000000000L;
        test.makes("inf inf inf inf", "%f %e %g %a", infinite, infinite, infinite, infinite);
        test.makes("INF INF INF INF", "%F %E %G %A", infinite, infinite, infinite, infinite);
        test.makes("-inf +inf  inf", "%f %+f % f", infinite | Long.MIN_VALUE, infinite, infinite);
        test.makes("nan -nan NAN -NAN", "%a %g %F %E", quiet, -1, infinite | 1, infinite | 1 | Long.MIN_VALUE);
        test.makes("+nan  nan", "%+f % a", quiet, quiet);
        test.makes("     inf|nan     |    -inf", "%08f|%-8a|%08.3e", infinite, quiet, infinite | Long.MIN_VALUE);
        test.makes("inf", "%#.0f", infinite);
    }

    private static void filledUp(Desk test) {
        test.makesOfNumber("     1.5", "%8.1f", 1.5);
        test.makesOfNumber("1.5     ", "%-8.1f", 1.5);
        test.makesOfNumber("000001.5", "%08.1f", 1.5);
        test.makesOfNumber("-00001.5", "%08.1f", -1.5);
        test.makesOfNumber("+00001.5", "%+08.1f", 1.5);
        test.makesOfNumber(" 00001.5", "% 08.1f", 1.5);
        test.makesOfNumber("1.5     ", "%-08.1f", 1.5);
        test.makesOfNumber("+1.5", "% +.1f", 1.5);
        test.makesOfNumber("0001.5e+00", "%010.1e", 1.5);
        test.makesOfNumber("00000001.5", "%010g", 1.5);
        test.makesOfNumber("-0x0001.8p+0", "%012a", -1.5);
        test.makesOfNumber("+0X0001.8P+0", "%+012A", 1.5);
        test.makesOfNumber("   -0x1.8p+0", "%12a", -1.5);
        test.makesOfNumber("1.5000000", "%3.7f", 1.5);
    }
}
