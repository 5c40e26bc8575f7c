/** Promise 1: A new object. */
public final class Promise1NewObjectTest {
    public static void main(String[] args) {
        Desk test = new Desk();
        test.check(Promise1NewObjectTest::emptyFormat);
        test.check(Promise1NewObjectTest::noArguments);
        test.check(Promise1NewObjectTest::nothingWasPutOut);
        test.check(Promise1NewObjectTest::eachObjectForItself);
        test.end();
    }

    private static void emptyFormat(Desk test) {
        test.sentence("THE FORMAT is empty");
        FormatDesk desk = new FormatDesk();
        test.same("count(0)", desk.count(0), 0);
        test.same("run()", desk.run(), 0);
        test.same("wrong() after run()", desk.wrong(), -1);
        test.counts("after run()", desk, 0, 0, 0, 0, 0);
        test.fails("letters(0) after run()", IndexOutOfBoundsException.class, () -> desk.letters(0));
        test.same("the first letter", desk.text(Desk.packed("a")), 1);
    }

    private static void noArguments(Desk test) {
        test.sentence("no ARGUMENTS");
        FormatDesk desk = new FormatDesk();
        test.same("count(1)", desk.count(1), 0);
        Desk.write(desk, "%d");
        desk.run();
        test.same("what is taken", Desk.out(desk), "0");
        test.same("count(2)", desk.count(2), 0);
        test.same("the first ARGUMENT", desk.argument(9), 1);
    }

    private static void nothingWasPutOut(Desk test) {
        test.sentence("-1 before the first one");
        FormatDesk desk = new FormatDesk();
        test.same("wrong()", desk.wrong(), -1);
        test.counts("of a new object", desk, 0, 0, 0, 0, 0);
        test.fails("letters(0)", IndexOutOfBoundsException.class, () -> desk.letters(0));
        desk.clear();
        test.same("wrong() after clear()", desk.wrong(), -1);
        test.counts("after clear()", desk, 0, 0, 0, 0, 0);
    }

    private static void eachObjectForItself(Desk test) {
        test.sentence("THE FORMAT is empty, no ARGUMENTS");
        FormatDesk used = Desk.desk("%d%", 5);
        test.fails("run() of another one", IllegalArgumentException.class, () -> used.run());
        FormatDesk desk = new FormatDesk();
        test.counts("of a new object", desk, 0, 0, 0, 0, 0);
        test.same("wrong()", desk.wrong(), -1);
        Desk.write(desk, "new %d");
        desk.argument(7);
        desk.run();
        test.counts("of the other one", used, 3, 1, 0, 0, 0);
        test.same("wrong() of the other one", used.wrong(), 3);
        test.same("letters", Desk.out(desk), "new 7");
    }
}
