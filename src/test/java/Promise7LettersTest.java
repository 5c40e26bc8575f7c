/** Promise 7: letters. */
public final class Promise7LettersTest {
    public static void main(String[] args) {
        Desk test = new Desk();
        for (int size = 1; size <= 24; size++) {
            String all = "abcdefghijklmnopqrstuvwx".substring(0, size);
            FormatDesk desk = Desk.desk(all);
            desk.run();
            for (int k = 0; 8 * k < size; k++) {
                String eight = all.substring(8 * k, Math.min(size, 8 * k + 8));
                test.same("letters(" + k + ") of " + size, desk.letters(k), Desk.packed(eight));
            }
            int behind = (size + 7) / 8;
            test.fails("letters behind the end of " + size, IndexOutOfBoundsException.class, () -> desk.letters(behind));
        }
        FormatDesk desk = Desk.desk("%100d", 5);
        test.fails("before run()", IndexOutOfBoundsException.class, () -> desk.letters(0));
        desk.run();
        int[] none = {-1, Integer.MIN_VALUE, Integer.MAX_VALUE, 13, 1 << 29, 1 << 28, -(1 << 29), 0x20000001};
        for (int k : none) {
            test.fails("letters(" + k + ")", IndexOutOfBoundsException.class, () -> desk.letters(k));
        }
        test.same("the last ones", desk.letters(12), Desk.packed("   5"));
        Desk.write(desk, "abc");
        test.same("text() changes nothing", desk.letters(12), Desk.packed("   5"));
        desk.clear();
        test.same("clear() changes nothing", desk.letters(12), Desk.packed("   5"));
        test.end();
    }
}
