/** Promise 8: count. */
public final class Promise8CountTest {
    public static void main(String[] args) {
        Desk test = new Desk();
        test.check(Promise8CountTest::formatAndArguments);
        test.check(Promise8CountTest::taken);
        test.check(Promise8CountTest::takenForStars);
        test.check(Promise8CountTest::directives);
        test.check(Promise8CountTest::zeroIfItThrew);
        test.check(Promise8CountTest::putOut);
        test.check(Promise8CountTest::others);
        test.end();
    }

    private static void formatAndArguments(Desk test) {
        test.sentence("What 0: letters of THE FORMAT; 1: ARGUMENTS");
        FormatDesk desk = new FormatDesk();
        test.counts("of a new object", desk, 0, 0);
        Desk.write(desk, "abc");
        test.counts("after text()", desk, 3, 0);
        desk.argument(0);
        test.counts("after argument()", desk, 3, 1);
        desk.run();
        test.counts("after run()", desk, 3, 1);
        Desk.write(desk, "d".repeat(397));
        for (int i = 0; i < 59; i++) {
            desk.argument(i);
        }
        test.counts("of a full one", desk, 400, 60);
        test.fails("text()", IndexOutOfBoundsException.class, () -> desk.text(-1L));
        test.fails("argument()", IndexOutOfBoundsException.class, () -> desk.argument(1));
        test.counts("after what was refused", desk, 400, 60);
        desk.clear();
        test.counts("after clear()", desk, 0, 0);
    }

    private static void taken(Desk test) {
        test.sentence("2: those that were taken by the latest run() (of those that there were)");
        FormatDesk desk = Desk.desk("%d%%%d", 1, 2, 3);
        test.counts("before run()", desk, 6, 3, 0, 0, 0);
        desk.run();
        test.counts("after run()", desk, 6, 3, 2, 3, 3);
        desk.run();
        test.counts("after run() again", desk, 6, 3, 2, 3, 3);
        Desk.write(desk, "%c%f");
        desk.argument(4);
        test.counts("before the next run()", desk, 10, 4, 2, 3, 3);
        desk.run();
        test.counts("all", desk, 10, 4, 4, 5, 12);
        Desk.write(desk, "%d%d");
        desk.run();
        test.counts("of those that there were", desk, 14, 4, 4, 7, 14);
        desk.clear();
        test.counts("after clear()", desk, 0, 0, 4, 7, 14);
        FormatDesk none = Desk.desk("%d%x%f%*.*d");
        none.run();
        test.counts("where there were none", none, 11, 0, 0, 4, 10);
    }

    private static void takenForStars(Desk test) {
        test.sentence("(for * too)");
        FormatDesk all = Desk.desk("%*.*d", 5, 4, 3);
        all.run();
        test.counts("both and its own", all, 5, 3, 3, 1, 5);
        FormatDesk percent = Desk.desk("%*%%.*%%*.*%", 1, 2, 3, 4, 5);
        percent.run();
        test.counts("for * of %", percent, 12, 5, 4, 3, 5);
        FormatDesk half = Desk.desk("%*.*d", 5);
        half.run();
        test.counts("for the first * alone", half, 5, 1, 1, 1, 5);
        FormatDesk two = Desk.desk("%*.*d", 5, 2);
        two.run();
        test.counts("for both * alone", two, 5, 2, 2, 1, 5);
    }

    private static void directives(Desk test) {
        test.sentence("3: DIRECTIVES that it did");
        FormatDesk each = Desk.desk("%d%i%u%o%x%X%c%e%E%f%F%g%G%a%A%%");
        each.run();
        test.same("one of each kind", each.count(3), 16);
        FormatDesk none = Desk.desk("abc");
        none.run();
        test.same("letters are none", none.count(3), 0);
        FormatDesk empty = Desk.desk("%.0d%.0u", 0, 0);
        empty.run();
        test.same("those that put out nothing", empty.count(3), 2);
        FormatDesk most = Desk.desk("%d".repeat(200));
        most.run();
        test.same("200", most.count(3), 200);
        most.clear();
        most.run();
        test.same("the next run()", most.count(3), 0);
    }

    private static void zeroIfItThrew(Desk test) {
        test.sentence("(2, 3: 0 if it threw)");
        FormatDesk wrong = Desk.desk("%d%d", 1, 2);
        wrong.run();
        Desk.write(wrong, "%");
        test.counts("before it", wrong, 5, 2, 2, 2, 2);
        test.fails("WRONG", IllegalArgumentException.class, () -> wrong.run());
        test.counts("after WRONG", wrong, 5, 2, 0, 0, 0);
        Desk.write(wrong, "d");
        wrong.run();
        test.counts("after a good one", wrong, 6, 2, 2, 3, 3);
        FormatDesk tooMany = Desk.desk("%d" + "%200d".repeat(20), 1);
        test.fails("more than 4000", UnsupportedOperationException.class, () -> tooMany.run());
        test.counts("after more than 4000", tooMany, 102, 1, 0, 0, 0);
    }

    private static void putOut(Desk test) {
        test.sentence("4: letters that were put out");
        FormatDesk desk = Desk.desk("%5d|", 7);
        test.same("before run()", desk.count(4), 0);
        test.same("run()", desk.run(), 6);
        test.same("after run()", desk.count(4), 6);
        Desk.write(desk, "abc");
        test.same("after text()", desk.count(4), 6);
        desk.clear();
        test.same("after clear()", desk.count(4), 6);
        Desk.write(desk, "%200d".repeat(20));
        desk.run();
        test.same("the most", desk.count(4), 4000);
        Desk.write(desk, "a");
        test.fails("run()", UnsupportedOperationException.class, () -> desk.run());
        test.same("none then", desk.count(4), 0);
    }

    private static void others(Desk test) {
        test.sentence("IllegalArgumentException for others.");
        FormatDesk desk = Desk.desk("%d", 1);
        desk.run();
        int[] others = {-1, -2, 5, 6, 256, 1 << 16, Integer.MIN_VALUE, Integer.MIN_VALUE + 4, Integer.MAX_VALUE};
        for (int what : others) {
            test.fails("count(" + what + ")", IllegalArgumentException.class, () -> desk.count(what));
            test.fails("count(" + what + ") of a new object", IllegalArgumentException.class, () -> new FormatDesk().count(what));
        }
        test.counts("as before", desk, 2, 1, 1, 1, 1);
        test.same("wrong() as before", desk.wrong(), -1);
    }
}
