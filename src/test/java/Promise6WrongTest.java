/** Promise 6: wrong. */
public final class Promise6WrongTest {
    public static void main(String[] args) {
        Desk test = new Desk();
        test.check(Promise6WrongTest::beforeTheFirst);
        test.check(Promise6WrongTest::whereTheLatestWas);
        test.check(Promise6WrongTest::notWrong);
        test.check(Promise6WrongTest::clearLeavesIt);
        test.end();
    }

    private static void beforeTheFirst(Desk test) {
        test.sentence("-1 before the first one");
        FormatDesk desk = Desk.desk("x%");
        test.same("wrong() of a WRONG format, before run()", desk.wrong(), -1);
        desk.clear();
        test.same("wrong() after clear()", desk.wrong(), -1);
    }

    private static void whereTheLatestWas(Desk test) {
        test.sentence("Where the latest run() was WRONG");
        FormatDesk desk = Desk.desk("x%");
        test.fails("run()", IllegalArgumentException.class, () -> desk.run());
        test.same("wrong()", desk.wrong(), 2);
        test.same("wrong() again", desk.wrong(), 2);
        Desk.write(desk, "5");
        test.same("text() leaves it", desk.wrong(), 2);
        desk.argument(5);
        test.same("argument() leaves it", desk.wrong(), 2);
        test.fails("letters(0)", IndexOutOfBoundsException.class, () -> desk.letters(0));
        test.same("letters() leaves it", desk.wrong(), 2);
        test.fails("count(9)", IllegalArgumentException.class, () -> desk.count(9));
        test.same("count() leaves it", desk.wrong(), 2);
        test.fails("the next run()", IllegalArgumentException.class, () -> desk.run());
        test.same("where that one was WRONG", desk.wrong(), 3);
        test.isWrong(0, "\u0001");
        test.isWrong(399, "a".repeat(398) + "%k");
        test.isWrong(400, "a".repeat(399) + "%");
    }

    private static void notWrong(Desk test) {
        test.sentence("-1 if it was not");
        FormatDesk desk = Desk.desk("x%");
        test.fails("run()", IllegalArgumentException.class, () -> desk.run());
        Desk.write(desk, "d");
        desk.run();
        test.same("a good run()", desk.wrong(), -1);
        Desk.write(desk, "%");
        test.fails("run()", IllegalArgumentException.class, () -> desk.run());
        test.same("WRONG", desk.wrong(), 4);
        Desk.write(desk, "d" + "%200d".repeat(20));
        test.fails("too many letters", UnsupportedOperationException.class, () -> desk.run());
        test.same("that is not WRONG", desk.wrong(), -1);
        FormatDesk empty = new FormatDesk();
        empty.run();
        test.same("an empty FORMAT is not WRONG", empty.wrong(), -1);
    }

    private static void clearLeavesIt(Desk test) {
        test.sentence("clear() leaves it, as all that count() tells of the latest run()");
        FormatDesk desk = Desk.desk("ab%q");
        test.fails("run()", IllegalArgumentException.class, () -> desk.run());
        desk.clear();
        test.same("after clear()", desk.wrong(), 3);
        Desk.write(desk, "ok");
        test.same("after clear() and text()", desk.wrong(), 3);
        desk.run();
        test.same("after the next run()", desk.wrong(), -1);
        desk.clear();
        test.same("after clear() again", desk.wrong(), -1);
    }
}
