/** Promise 8: count. */
public final class Promise8CountTest {
    public static void main(String[] args) {
        Desk test = new Desk();
        FormatDesk desk = Desk.desk("a%d%%%*.*f|", 1, 9, 2, 0x3ff0000000000000L, 5, 6);
        counts(test, "before run()", desk, 11, 6, 0, 0, 0);
        desk.run();
        counts(test, "after run()", desk, 11, 6, 4, 3, 13);
        desk.argument(7);
        Desk.write(desk, "%");
        counts(test, "of the latest run", desk, 12, 7, 4, 3, 13);
        test.fails("WRONG", IllegalArgumentException.class, () -> desk.run());
        counts(test, "after WRONG", desk, 12, 7, 0, 0, 0);
        Desk.write(desk, "d");
        desk.run();
        counts(test, "again", desk, 13, 7, 5, 4, 14);
        desk.clear();
        counts(test, "after clear()", desk, 0, 0, 5, 4, 14);

        FormatDesk few = Desk.desk("%*d%d%c%f", 3, 4);
        few.run();
        counts(test, "those that there were", few, 9, 2, 2, 4, 13);
        FormatDesk stars = Desk.desk("%*%%.*%%*.*%", 1, 2, 3, 4, 5);
        stars.run();
        counts(test, "for * of %", stars, 12, 5, 4, 3, 5);
        FormatDesk half = Desk.desk("%*.*d", 5);
        half.run();
        counts(test, "for * alone", half, 5, 1, 1, 1, 5);
        FormatDesk tooLong = Desk.desk("%d" + "%200d".repeat(20), 1);
        test.fails("too long", UnsupportedOperationException.class, () -> tooLong.run());
        counts(test, "after too long", tooLong, 102, 1, 0, 0, 0);

        int[] others = {-1, 5, 6, Integer.MIN_VALUE, Integer.MAX_VALUE};
        for (int what : others) {
            test.fails("count(" + what + ")", IllegalArgumentException.class, () -> desk.count(what));
        }
        test.end();
    }

    private static void counts(Desk test, String when, FormatDesk desk, int... due) {
        for (int what = 0; what < due.length; what++) {
            test.same("count(" + what + ") " + when, desk.count(what), due[what]);
        }
    }
}
