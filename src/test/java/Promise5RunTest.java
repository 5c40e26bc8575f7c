/** Promise 5: run, and which ARGUMENTS a directive takes (term 1). */
public final class Promise5RunTest {
    public static void main(String[] args) {
        Desk test = new Desk();
        lettersArePutOutAsTheyAre(test);
        argumentsAreTakenInOrder(test);
        starsAreLimited(test);
        whatWasIsGone(test);
        wrongComesBeforeAnything(test);
        fourThousandAreTheMost(test);
        test.end();
    }

    private static void lettersArePutOutAsTheyAre(Desk test) {
        StringBuilder all = new StringBuilder();
        for (char letter = 32; letter <= 126; letter++) {
            if (letter != '%') {
                all.append(letter);
            }
        }
        test.makes(all.toString(), all.toString());
        test.makes("%", "%%");
        test.makes("100%d", "%d%%d", 100);
        test.makes("a\\n5b", "a\\n%db", 5);
    }

    private static void argumentsAreTakenInOrder(Desk test) {
        test.makes("1 2 3", "%d %i %u", 1, 2, 3, 4);
        test.makes("    7|0008", "%*d|%.*d", 5, 7, 4, 8);
        test.makes(" 0009|10", "%*.*d|%d", 5, 4, 9, 10);
        test.makes("  %|3", "%*.*%|%d", 3, 9, 3);
        test.makes("%5", "%%%d", 5);
        test.makes("1 0 0.000000 ?|", "%d %d %f %c|%*.*d", 1);
        test.makes("0x0p+0", "%a");
        test.makes("  0", "%*d", 3);
        FormatDesk again = Desk.desk("%d", 3);
        again.run();
        again.run();
        test.same("FORMAT and ARGUMENTS stay", Desk.out(again), "3");
        again.argument(4);
        Desk.write(again, "%d");
        test.same("and more may come", again.run(), 2);
        test.same("behind them", Desk.out(again), "34");
    }

    private static void starsAreLimited(Desk test) {
        test.makes("7   |", "%*d|", -4, 7);
        test.makes("7   |", "%0*d|", -4, 7);
        test.makes("7   |", "%-*d|", -4, 7);
        test.makes("0007|", "%0*d|", 4, 7);
        test.makes("7|", "%*d|", 0, 7);
        test.makes("|", "%.*d|", 0, 0);
        test.makes("0|", "%.*d|", -1, 0);
        test.makes("00007|", "%05.*d|", -200, 7);
        test.makes("    7|", "%05.*d|", 1, 7);
        test.makes("2.500000|0x1.4p+1|2.5", "%.*f|%.*a|%.*g", -1, 0x4004000000000000L, -9, 0x4004000000000000L,
            Long.MIN_VALUE, 0x4004000000000000L);
        test.makes(" ".repeat(199) + "7", "%*d", 200, 7);
        test.makes(" ".repeat(199) + "7", "%*d", 201, 7);
        test.makes(" ".repeat(199) + "7", "%*d", Long.MAX_VALUE, 7);
        test.makes("7" + " ".repeat(199), "%*d", -200, 7);
        test.makes("7" + " ".repeat(199), "%*d", -201, 7);
        test.makes("7" + " ".repeat(199), "%*d", Long.MIN_VALUE, 7);
        test.makes(" ".repeat(199) + "7", "%*d", 1L << 32, 7);
        test.makes("0".repeat(199) + "7", "%.*d", 201, 7);
        test.makes("0".repeat(199) + "7", "%.*d", Long.MAX_VALUE, 7);
        test.makes("7", "%.*d", Long.MIN_VALUE, 7);
        test.makes("0." + "0".repeat(200), "%.*f", 1000, 0);
    }

    private static void whatWasIsGone(Desk test) {
        FormatDesk desk = Desk.desk("abcdefghijkl");
        desk.run();
        desk.clear();
        Desk.write(desk, "xy");
        test.same("letters of the second run", desk.run(), 2);
        test.same("nothing behind them", desk.letters(0), Desk.packed("xy"));
        Desk.write(desk, "%");
        test.fails("WRONG", IllegalArgumentException.class, () -> desk.run());
        test.same("gone if WRONG", desk.count(4), 0);
        test.fails("letters(0)", IndexOutOfBoundsException.class, () -> desk.letters(0));
    }

    private static void wrongComesBeforeAnything(Desk test) {
        FormatDesk desk = Desk.desk("%200d".repeat(21) + "%", 1, 2);
        test.fails("WRONG and more than 4000", IllegalArgumentException.class, () -> desk.run());
        test.same("wrong()", desk.wrong(), 106);
        test.same("none is taken", desk.count(2), 0);
        test.same("none is put out", desk.count(4), 0);
    }

    private static void fourThousandAreTheMost(Desk test) {
        FormatDesk desk = Desk.desk("%200d".repeat(20));
        test.same("4000", desk.run(), 4000);
        test.same("the last eight", desk.letters(499), Desk.packed("       0"));
        test.fails("letters(500)", IndexOutOfBoundsException.class, () -> desk.letters(500));
        Desk.write(desk, "%.0d");
        test.same("4000 and a directive that puts out nothing", desk.run(), 4000);
        test.same("it counts", desk.count(3), 21);
        Desk.write(desk, "x");
        test.fails("4001 by a letter", UnsupportedOperationException.class, () -> desk.run());
        noneThen(test, desk);
        FormatDesk byPiece = Desk.desk("%200d".repeat(19) + "%199d%2d", 1, 2, 3);
        test.fails("4001 by a directive", UnsupportedOperationException.class, () -> byPiece.run());
        noneThen(test, byPiece);
        FormatDesk byDigits = Desk.desk("%200d".repeat(19) + "%199d%d", 1, 2, 3);
        test.same("4000 to the letter", byDigits.run(), 4000);
        FormatDesk long510 = Desk.desk("%.200f".repeat(8), -1L >>> 12 | 0xFFEL << 52);
        test.same("the longest of all, and zeros", long510.run(), 511 + 7 * 202);
        FormatDesk muchTooLong = Desk.desk("%*d".repeat(30) + "%.200f".repeat(20));
        for (int i = 0; i < 60; i++) {
            muchTooLong.argument(-1L >>> 12 | 0x7FEL << 52);
        }
        test.fails("much too long", UnsupportedOperationException.class, () -> muchTooLong.run());
        noneThen(test, muchTooLong);
        muchTooLong.clear();
        test.same("it works on", muchTooLong.run(), 0);
    }

    private static void noneThen(Desk test, FormatDesk desk) {
        test.same("none are put out", desk.count(4), 0);
        test.fails("letters(0)", IndexOutOfBoundsException.class, () -> desk.letters(0));
        test.same("none taken", desk.count(2), 0);
        test.same("no directives", desk.count(3), 0);
        test.same("not WRONG", desk.wrong(), -1);
    }
}
