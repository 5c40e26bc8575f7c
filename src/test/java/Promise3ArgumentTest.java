/** Promise 3: argument. */
public final class Promise3ArgumentTest {
    private static final long[] EDGES = {0, 1, -1, Long.MIN_VALUE, Long.MAX_VALUE, 1L << 31, 1L << 32, -(1L << 31) - 1};

    public static void main(String[] args) {
        Desk test = new Desk();
        test.check(Promise3ArgumentTest::howMany);
        test.check(Promise3ArgumentTest::sixtyAreTheMost);
        test.end();
    }

    private static void howMany(Desk test) {
        test.sentence("An ARGUMENT: how many there are.");
        FormatDesk desk = new FormatDesk();
        StringBuilder due = new StringBuilder();
        for (int i = 0; i < EDGES.length; i++) {
            test.same("argument(" + EDGES[i] + ")", desk.argument(EDGES[i]), i + 1);
            test.same("count(1)", desk.count(1), i + 1);
            Desk.write(desk, "%d ");
            due.append(EDGES[i]).append(' ');
        }
        desk.run();
        test.same("all of their bits, in their order", Desk.out(desk), due.toString());
        test.same("run() takes none away", desk.argument(5), EDGES.length + 1);
        desk.clear();
        test.same("the first one again", desk.argument(7), 1);
        Desk.write(desk, "%d %d");
        desk.run();
        test.same("the old ones are gone", Desk.out(desk), "7 0");
    }

    private static void sixtyAreTheMost(Desk test) {
        test.sentence("IndexOutOfBoundsException: there are 60.");
        FormatDesk desk = Desk.desk("%d,".repeat(61));
        StringBuilder due = new StringBuilder();
        for (int i = 1; i <= 60; i++) {
            test.same("argument " + i, desk.argument(-i), i);
            due.append(-i).append(',');
        }
        test.fails("argument 61", IndexOutOfBoundsException.class, () -> desk.argument(61));
        test.fails("argument 61 again", IndexOutOfBoundsException.class, () -> desk.argument(0));
        test.same("count(1)", desk.count(1), 60);
        desk.run();
        test.same("the one that was refused is not there", Desk.out(desk), due + "0,");
        test.fails("run() takes none away", IndexOutOfBoundsException.class, () -> desk.argument(61));
        desk.clear();
        for (int i = 1; i <= 60; i++) {
            test.same("room for 60 again", desk.argument(i), i);
        }
        test.fails("and no more", IndexOutOfBoundsException.class, () -> desk.argument(61));
    }
}
