/** Promise 1: THE FORMAT is empty, no ARGUMENTS. */
public final class Promise1NewObjectTest {
    public static void main(String[] args) {
        Desk test = new Desk();
        FormatDesk fresh = new FormatDesk();
        for (int what = 0; what <= 4; what++) {
            test.same("count(" + what + ")", fresh.count(what), 0);
        }
        test.same("wrong()", fresh.wrong(), -1);
        test.fails("letters(0)", IndexOutOfBoundsException.class, () -> fresh.letters(0));
        test.same("run()", fresh.run(), 0);
        test.same("wrong() after run()", fresh.wrong(), -1);
        test.fails("letters(0) after run()", IndexOutOfBoundsException.class, () -> fresh.letters(0));

        FormatDesk used = Desk.desk("%d", 5);
        used.run();
        test.same("another object's letters", new FormatDesk().count(4), 0);
        test.same("another object's format", new FormatDesk().count(0), 0);
        test.end();
    }
}
