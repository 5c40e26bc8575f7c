/** Term 1: which ARGUMENTS a DIRECTIVE takes, and what * makes of them. */
public final class Term1ArgumentsTest {
    private static final long TWO_AND_A_HALF = 0x4004000000000000L;

    public static void main(String[] args) {
        Desk test = new Desk();
        test.check(Term1ArgumentsTest::order);
        test.check(Term1ArgumentsTest::percentHasNone);
        test.check(Term1ArgumentsTest::noneAnyMore);
        test.check(Term1ArgumentsTest::starBelow);
        test.check(Term1ArgumentsTest::starAbove);
        test.check(Term1ArgumentsTest::widthBelowZero);
        test.check(Term1ArgumentsTest::precisionBelowZero);
        test.end();
    }

    private static void order(Desk test) {
        test.sentence("ARGUMENTS are taken one behind the other, by each DIRECTIVE: first for * of WIDTH, then of PRECISION, then its own");
        test.makes("1 2 3", "%d %i %u", 1, 2, 3, 4);
        test.makes("    7|0008", "%*d|%.*d", 5, 7, 4, 8);
        test.makes(" 0009|10", "%*.*d|%d", 5, 4, 9, 10);
        test.makes("  2.5|A|11", "%*.*f|%c|%o", 5, 1, TWO_AND_A_HALF, 65, 9);
        FormatDesk sixty = Desk.desk("%d".repeat(60));
        StringBuilder due = new StringBuilder();
        for (int i = 0; i < 60; i++) {
            sixty.argument(7 * i);
            due.append(7 * i);
        }
        sixty.run();
        test.same("all 60", Desk.out(sixty), due.toString());
        test.same("all 60 are taken", sixty.count(2), 60);
    }

    private static void percentHasNone(Desk test) {
        test.sentence("% has none");
        test.makes("%5", "%%%d", 5);
        test.makes("  %|3", "%*.*%|%d", 3, 9, 3);
        test.makes("%  |7", "%*%|%d", -3, 7);
        FormatDesk desk = Desk.desk("%%%5%%-.3%", 1, 2);
        desk.run();
        test.same("none is taken", desk.count(2), 0);
    }

    private static void noneAnyMore(Desk test) {
        test.sentence("0 if there are none any more");
        test.makes("0|0|0|0|0|0|?", "%d|%i|%u|%o|%x|%X|%c");
        test.makes("0.000000e+00|0.000000E+00|0.000000|0.000000|0|0|0x0p+0|0X0P+0", "%e|%E|%f|%F|%g|%G|%a|%A");
        test.makes("1 0 0.000000 ?", "%d %d %f %c", 1);
        test.makes("  0|", "%*d|", 3);
        test.makes("    0|0|", "%5.*d|%*d|", -1);
        test.makes("0|", "%*d|");
        test.makes("|", "%.*d|");
        test.makes("0|", "%.*f|");
        test.makes("0e+00|", "%.*e|");
        test.makes("     |", "%*.*d|", 5);
        test.makes("  000|", "%*.*d|", 5, 3);
        test.makes("%|", "%*.*%|");
        FormatDesk last = Desk.desk("%d".repeat(61));
        for (int i = 0; i < 60; i++) {
            last.argument(1);
        }
        last.run();
        test.same("the 61st of 60", Desk.out(last), "1".repeat(60) + "0");
        test.same("none but 60 is taken", last.count(2), 60);
    }

    private static void starBelow(Desk test) {
        test.sentence("For *: below -200 it is -200");
        for (long below : new long[] {-200, -201, -202, -999, -(1L << 31), -(1L << 32), -(1L << 32) + 5, Long.MIN_VALUE, Long.MIN_VALUE + 7}) {
            test.makes("7" + " ".repeat(199) + "|", "%*d|", below, 7);
            test.makes("7|", "%.*d|", below, 7);
            test.makes("2.500000|", "%.*f|", below, TWO_AND_A_HALF);
        }
        test.makes("7" + " ".repeat(198) + "|", "%*d|", -199, 7);
    }

    private static void starAbove(Desk test) {
        test.sentence("above 200 it is 200");
        for (long above : new long[] {200, 201, 202, 999, 1L << 31, 1L << 32, (1L << 32) + 5, (1L << 32) - 1, Long.MAX_VALUE}) {
            test.makes(" ".repeat(199) + "7", "%*d", above, 7);
            test.makes("0".repeat(199) + "7", "%.*d", above, 7);
            test.makes("0." + "0".repeat(200), "%.*f", above, 0);
            test.makes("0x0." + "0".repeat(200) + "p+0", "%.*a", above, 0);
        }
        test.makes(" ".repeat(198) + "7", "%*d", 199, 7);
        test.makes("0".repeat(198) + "7", "%.*d", 199, 7);
    }

    private static void widthBelowZero(Desk test) {
        test.sentence("a WIDTH below 0 is the flag - and the WIDTH without sign");
        test.makes("7|", "%*d|", -1, 7);
        test.makes("7 |", "%*d|", -2, 7);
        test.makes("7   |", "%0*d|", -4, 7);
        test.makes("7   |", "%-*d|", -4, 7);
        test.makes("-2.5  |", "%0*.1f|", -6, TWO_AND_A_HALF | Long.MIN_VALUE);
        test.makes("A   |%   |", "%*c|%*%|", -4, 65, -4);
        test.makes("7   |   7|", "%*d|%4d|", -4, 7, 7);
        test.makes("0007|   7|7   |", "%0*d|%*d|%-*d|", 4, 7, 4, 7, 4, 7);
        test.makes("7|7|", "%*d|%0*d|", 0, 7, 0, 7);
    }

    private static void precisionBelowZero(Desk test) {
        test.sentence("a PRECISION below 0 is none");
        for (long below : new long[] {-1, -2, -6, -199, -200}) {
            test.makes("0|0|0|0|", "%.*d|%.*u|%.*o|%.*x|", below, 0, below, 0, below, 0, below, 0);
            test.makes("00007|", "%05.*d|", below, 7);
            test.makes("2.500000|2.500000e+00|2.5|0x1.4p+1", "%.*f|%.*e|%.*g|%.*a", below, TWO_AND_A_HALF, below, TWO_AND_A_HALF,
                below, TWO_AND_A_HALF, below, TWO_AND_A_HALF);
        }
        test.makes("|    7|2|", "%.*d|%05.*d|%.*f|", 0, 0, 0, 7, 0, TWO_AND_A_HALF);
        test.makes("0|    7|", "%.*d|%05.*d|", 1, 0, 1, 7);
    }
}
