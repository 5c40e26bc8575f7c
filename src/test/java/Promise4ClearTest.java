/** Promise 4: clear. */
public final class Promise4ClearTest {
    public static void main(String[] args) {
        Desk test = new Desk();
        FormatDesk desk = Desk.desk("%d-%d", 12, 34, 56);
        desk.run();
        desk.clear();
        test.same("no FORMAT", desk.count(0), 0);
        test.same("no ARGUMENTS", desk.count(1), 0);
        test.same("taken by the latest run", desk.count(2), 2);
        test.same("directives of the latest run", desk.count(3), 2);
        test.same("what was put out stays", Desk.out(desk), "12-34");
        test.same("run() of nothing", desk.run(), 0);
        test.same("that is gone then", desk.count(4), 0);
        test.same("taken", desk.count(2), 0);
        test.same("directives", desk.count(3), 0);

        FormatDesk wrong = Desk.desk("abc%k");
        test.fails("run()", IllegalArgumentException.class, () -> wrong.run());
        wrong.clear();
        test.same("wrong() stays", wrong.wrong(), 4);
        wrong.clear();
        Desk.write(wrong, "%d");
        test.same("a new FORMAT", wrong.run(), 1);
        test.same("is not WRONG", wrong.wrong(), -1);
        test.same("no ARGUMENT any more", Desk.out(wrong), "0");
        test.end();
    }
}
