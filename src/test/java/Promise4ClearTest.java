/** Promise 4: clear. */
public final class Promise4ClearTest {
    public static void main(String[] args) {
        Desk test = new Desk();
        test.check(Promise4ClearTest::noFormatNoArguments);
        test.check(Promise4ClearTest::whatWasPutOutStays);
        test.check(Promise4ClearTest::emptyAndFull);
        test.check(Promise4ClearTest::leavesTheLatestRun);
        test.end();
    }

    private static void noFormatNoArguments(Desk test) {
        test.sentence("No FORMAT, no ARGUMENTS");
        FormatDesk desk = Desk.desk("%d-%d", 12, 34, 56);
        desk.clear();
        test.counts("after clear()", desk, 0, 0, 0, 0, 0);
        test.same("run() of nothing", desk.run(), 0);
        Desk.write(desk, "%d");
        test.same("a new FORMAT", desk.run(), 1);
        test.same("none of the old ARGUMENTS", Desk.out(desk), "0");
        desk.argument(8);
        desk.run();
        test.same("a new ARGUMENT", Desk.out(desk), "8");
    }

    private static void whatWasPutOutStays(Desk test) {
        test.sentence("(what was put out stays)");
        FormatDesk desk = Desk.desk("%d-%d", 12, 34, 56);
        desk.run();
        desk.clear();
        test.same("count(4)", desk.count(4), 5);
        test.same("letters(0)", desk.letters(0), Desk.packed("12-34"));
        desk.clear();
        Desk.write(desk, "other");
        desk.argument(99);
        test.same("until the next run()", Desk.out(desk), "12-34");
        desk.run();
        test.same("that is gone then", Desk.out(desk), "other");
    }

    private static void emptyAndFull(Desk test) {
        test.sentence("No FORMAT, no ARGUMENTS");
        FormatDesk desk = new FormatDesk();
        desk.clear();
        desk.clear();
        test.counts("of a new object, cleared", desk, 0, 0, 0, 0, 0);
        for (int i = 0; i < 60; i++) {
            desk.argument(i);
        }
        Desk.write(desk, "b".repeat(400));
        desk.clear();
        test.counts("of a full one, cleared", desk, 0, 0, 0, 0, 0);
        Desk.write(desk, "c".repeat(400));
        test.same("400 have room again", desk.run(), 400);
        test.same("letters(49)", desk.letters(49), Desk.packed("cccccccc"));
    }

    private static void leavesTheLatestRun(Desk test) {
        test.sentence("clear() leaves it, as all that count() tells of the latest run()");
        FormatDesk wrong = Desk.desk("abc%k");
        test.fails("run()", IllegalArgumentException.class, () -> wrong.run());
        wrong.clear();
        test.same("wrong() stays", wrong.wrong(), 4);
        wrong.clear();
        test.same("wrong() stays again", wrong.wrong(), 4);
        FormatDesk desk = Desk.desk("%d-%*d%%", 12, 5, 34, 56);
        desk.run();
        desk.clear();
        test.counts("after clear()", desk, 0, 0, 3, 3, 9);
        test.same("run() of nothing", desk.run(), 0);
        test.counts("after run() of nothing", desk, 0, 0, 0, 0, 0);
    }
}
