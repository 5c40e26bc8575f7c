/** Promise 7: letters. */
public final class Promise7LettersTest {
    public static void main(String[] args) {
        Desk test = new Desk();
        test.check(Promise7LettersTest::eightLetters);
        test.check(Promise7LettersTest::behindTheEnd);
        test.check(Promise7LettersTest::thereIsNone);
        test.check(Promise7LettersTest::onlyRunChangesThem);
        test.end();
    }

    private static void eightLetters(Desk test) {
        test.sentence("Letters 8 k to 8 k + 7 that were put out, the first one highest");
        FormatDesk desk = Desk.desk("abcdefghijklmnopqrstuvwx");
        desk.run();
        test.same("letters(0)", desk.letters(0), 0x6162636465666768L);
        test.same("letters(1)", desk.letters(1), 0x696a6b6c6d6e6f70L);
        test.same("letters(2)", desk.letters(2), 0x7172737475767778L);
        test.same("letters(0) again", desk.letters(0), 0x6162636465666768L);
        FormatDesk edges = Desk.desk(" ~~~    ");
        edges.run();
        test.same("letters 32 and 126", edges.letters(0), 0x207e7e7e20202020L);
        // Two objects, since one is promised for no more than 512 calls.
        for (int half = 0; half < 2; half++) {
            FormatDesk full = Desk.desk("%200d".repeat(20));
            full.run();
            for (int k = 250 * half; k < 250 * half + 250; k++) {
                test.same("letters(" + k + ") of 4000", full.letters(k), Desk.packed(k % 25 == 24 ? "       0" : "        "));
            }
        }
    }

    private static void behindTheEnd(Desk test) {
        test.sentence("0 behind the end");
        for (int size = 1; size <= 24; size++) {
            String all = "abcdefghijklmnopqrstuvwx".substring(0, size);
            FormatDesk desk = Desk.desk("z".repeat(30));
            desk.run();
            desk.clear();
            Desk.write(desk, all);
            desk.run();
            for (int k = 0; 8 * k < size; k++) {
                String eight = all.substring(8 * k, Math.min(size, 8 * k + 8));
                test.same("letters(" + k + ") of " + size, desk.letters(k), Desk.packed(eight));
            }
        }
    }

    private static void thereIsNone(Desk test) {
        test.sentence("IndexOutOfBoundsException: there is none.");
        for (int size = 0; size <= 24; size++) {
            FormatDesk desk = Desk.desk("a".repeat(size));
            desk.run();
            int behind = (size + 7) / 8;
            test.fails("letters(" + behind + ") of " + size, IndexOutOfBoundsException.class, () -> desk.letters(behind));
        }
        FormatDesk desk = Desk.desk("%100d", 5);
        test.fails("before run()", IndexOutOfBoundsException.class, () -> desk.letters(0));
        desk.run();
        test.same("the last ones", desk.letters(12), Desk.packed("   5"));
        // Eight times some of these is a small number again, in 32 bits.
        int[] none = {-1, -2, Integer.MIN_VALUE, Integer.MAX_VALUE, 13, 14, 1 << 29, (1 << 29) + 1, 1 << 28, -(1 << 29), -(1 << 28), 1 << 30};
        for (int k : none) {
            test.fails("letters(" + k + ")", IndexOutOfBoundsException.class, () -> desk.letters(k));
        }
        FormatDesk full = Desk.desk("%200d".repeat(20));
        full.run();
        test.fails("letters(500) of 4000", IndexOutOfBoundsException.class, () -> full.letters(500));
        test.fails("letters(-1) of 4000", IndexOutOfBoundsException.class, () -> full.letters(-1));
    }

    private static void onlyRunChangesThem(Desk test) {
        test.sentence("that were put out");
        FormatDesk desk = Desk.desk("%4d", 5);
        desk.run();
        Desk.write(desk, "abc");
        test.same("text() changes nothing", desk.letters(0), Desk.packed("   5"));
        desk.argument(9);
        test.same("argument() changes nothing", desk.letters(0), Desk.packed("   5"));
        test.fails("letters(1)", IndexOutOfBoundsException.class, () -> desk.letters(1));
        test.same("letters() changes nothing", desk.letters(0), Desk.packed("   5"));
        desk.clear();
        test.same("clear() changes nothing", desk.letters(0), Desk.packed("   5"));
    }
}
