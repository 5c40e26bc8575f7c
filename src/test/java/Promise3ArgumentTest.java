/** Promise 3: argument. */
public final class Promise3ArgumentTest {
    public static void main(String[] args) {
        Desk test = new Desk();
        FormatDesk desk = Desk.desk("%d %d %d");
        for (int i = 1; i <= 60; i++) {
            test.same("argument " + i, desk.argument(i == 2 ? Long.MIN_VALUE : i), i);
        }
        test.fails("argument 61", IndexOutOfBoundsException.class, () -> desk.argument(61));
        test.same("count(1)", desk.count(1), 60);
        desk.run();
        test.same("in their order", Desk.out(desk), "1 -9223372036854775808 3");
        test.fails("run() takes none away", IndexOutOfBoundsException.class, () -> desk.argument(61));
        desk.clear();
        test.same("room again", desk.argument(7), 1);
        Desk.write(desk, "%d %d");
        desk.run();
        test.same("the old ones are gone", Desk.out(desk), "7 0");
        test.end();
    }
}
