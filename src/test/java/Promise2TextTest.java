/** Promise 2: text. */
public final class Promise2TextTest {
    public static void main(String[] args) {
        Desk test = new Desk();
        test.check(Promise2TextTest::octetsComeUpToTheFirstZero);
        test.check(Promise2TextTest::anyOctetComes);
        test.check(Promise2TextTest::fourHundredAreTheMost);
        test.check(Promise2TextTest::tooManyByEachSize);
        test.end();
    }

    private static void octetsComeUpToTheFirstZero(Desk test) {
        test.sentence("Up to eight letters, the octets of w, the highest first, to the first one that is 0, come to THE FORMAT: how many it has.");
        FormatDesk desk = new FormatDesk();
        test.same("none", desk.text(0), 0);
        test.same("one", desk.text(Desk.packed("a")), 1);
        test.same("eight", desk.text(Desk.packed("bcdefghi")), 9);
        test.same("behind a 0 none come", desk.text(0x6a006b6c00000000L), 10);
        test.same("a 0 in front", desk.text(0x006b6c6d6e6f7071L), 10);
        test.same("the lowest alone", desk.text(0x61), 10);
        test.same("seven", desk.text(Desk.packed("klmnopq")), 17);
        desk.run();
        test.same("letters", Desk.out(desk), "abcdefghijklmnopq");
        test.same("run() leaves THE FORMAT", desk.text(Desk.packed("r")), 18);
        for (int size = 0; size <= 8; size++) {
            String letters = "stuvwxyz".substring(0, size);
            FormatDesk other = new FormatDesk();
            test.same(size + " letters", other.text(Desk.packed(letters)), size);
            test.same(size + " letters and count(0)", other.count(0), size);
            other.run();
            test.same(size + " letters put out", Desk.out(other), letters);
            if (size < 7) {
                long behindZero = Desk.packed(letters + "\0" + "ABCDEFGH");
                test.same(size + " letters before a 0", other.text(behindZero), 2 * size);
            }
        }
    }

    private static void anyOctetComes(Desk test) {
        test.sentence("(Any octets but 0 come; run() judges them.)");
        FormatDesk desk = new FormatDesk();
        test.same("octets 255", desk.text(-1L), 8);
        test.same("small octets", desk.text(0x0102030405060708L), 16);
        test.same("octets above 127", desk.text(0x8081828384858687L), 24);
        test.same("not WRONG yet", desk.wrong(), -1);
        test.fails("run() judges them", IllegalArgumentException.class, () -> desk.run());
        test.same("wrong()", desk.wrong(), 0);
        for (int octet = 1; octet <= 255; octet++) {
            FormatDesk one = new FormatDesk();
            test.same("octet " + octet, one.text((long) octet << 56), 1);
        }
        FormatDesk percent = new FormatDesk();
        test.same("a WRONG directive", percent.text(Desk.packed("%k")), 2);
    }

    private static void fourHundredAreTheMost(Desk test) {
        test.sentence("IndexOutOfBoundsException: there would be more than 400 (none come then).");
        FormatDesk desk = new FormatDesk();
        for (int i = 1; i < 50; i++) {
            test.same("eight more", desk.text(Desk.packed("abcdefgh")), 8 * i);
        }
        test.same("397", desk.text(Desk.packed("abcde")), 397);
        test.fails("four more", IndexOutOfBoundsException.class, () -> desk.text(Desk.packed("ABCD")));
        test.fails("eight more", IndexOutOfBoundsException.class, () -> desk.text(-1L));
        test.same("none came", desk.count(0), 397);
        test.same("400", desk.text(Desk.packed("xyz")), 400);
        test.fails("one more", IndexOutOfBoundsException.class, () -> desk.text(Desk.packed("a")));
        test.fails("one more, again", IndexOutOfBoundsException.class, () -> desk.text(1L << 56));
        test.same("none more", desk.text(0), 400);
        test.same("none more, behind a 0", desk.text(0x00616161L), 400);
        test.same("all are put out", desk.run(), 400);
        test.same("the last ones", desk.letters(49), Desk.packed("abcdexyz"));
        desk.clear();
        test.same("room again", desk.text(Desk.packed("a")), 1);
    }

    private static void tooManyByEachSize(Desk test) {
        test.sentence("there would be more than 400");
        for (int room = 0; room <= 8; room++) {
            for (int size = 0; size <= 8; size++) {
                FormatDesk desk = Desk.desk("a".repeat(400 - room));
                long w = Desk.packed("bcdefghi".substring(0, size));
                if (size <= room) {
                    test.same(size + " letters where " + room + " have room", desk.text(w), 400 - room + size);
                } else {
                    test.fails(size + " letters where " + room + " have room", IndexOutOfBoundsException.class, () -> desk.text(w));
                    desk.run();
                    test.same("none came", Desk.out(desk), "a".repeat(400 - room));
                }
            }
        }
    }
}
