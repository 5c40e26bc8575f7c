/** Promise 2: text. */
public final class Promise2TextTest {
    public static void main(String[] args) {
        Desk test = new Desk();
        octetsComeUpToTheFirstZero(test);
        fourHundredAreTheMost(test);
        anyOctetComes(test);
        test.end();
    }

    private static void octetsComeUpToTheFirstZero(Desk test) {
        FormatDesk desk = new FormatDesk();
        test.same("none", desk.text(0), 0);
        test.same("one", desk.text(Desk.packed("a")), 1);
        test.same("eight", desk.text(Desk.packed("bcdefghi")), 9);
        test.same("behind a 0 none come", desk.text(0x6a006b6c00000000L), 10);
        test.same("a 0 in front", desk.text(0x006b6c6d6e6f7071L), 10);
        test.same("seven", desk.text(Desk.packed("klmnopq")), 17);
        desk.run();
        test.same("letters", Desk.out(desk), "abcdefghijklmnopq");
        test.same("run() leaves THE FORMAT", desk.text(Desk.packed("r")), 18);
    }

    private static void fourHundredAreTheMost(Desk test) {
        FormatDesk desk = new FormatDesk();
        for (int i = 1; i < 50; i++) {
            test.same("eight more", desk.text(Desk.packed("abcdefgh")), 8 * i);
        }
        test.same("397", desk.text(Desk.packed("abcde")), 397);
        test.fails("four more", IndexOutOfBoundsException.class, () -> desk.text(Desk.packed("abcd")));
        test.fails("eight more", IndexOutOfBoundsException.class, () -> desk.text(-1L));
        test.same("none came", desk.count(0), 397);
        test.same("400", desk.text(Desk.packed("xyz")), 400);
        test.fails("one more", IndexOutOfBoundsException.class, () -> desk.text(Desk.packed("a")));
        test.same("none more", desk.text(0), 400);
        test.same("none more, behind a 0", desk.text(0x00616161L), 400);
        test.same("all are put out", desk.run(), 400);
        test.same("the last ones", desk.letters(49), Desk.packed("abcdexyz"));
        desk.clear();
        test.same("room again", desk.text(Desk.packed("a")), 1);
    }

    private static void anyOctetComes(Desk test) {
        FormatDesk desk = new FormatDesk();
        test.same("octets above 127", desk.text(-1L), 8);
        test.same("small octets", desk.text(0x0102030405060708L), 16);
        test.fails("run() judges them", IllegalArgumentException.class, () -> desk.run());
        test.same("wrong()", desk.wrong(), 0);
    }
}
