/** Promise 5: run. */
public final class Promise5RunTest {
    private static final long LONGEST = 0xffefffffffffffffL;

    public static void main(String[] args) {
        Desk test = new Desk();
        test.check(Promise5RunTest::howManyLetters);
        test.check(Promise5RunTest::whatWasIsGone);
        test.check(Promise5RunTest::formatAndArgumentsStay);
        test.check(Promise5RunTest::wrongIsLookedForFirst);
        test.check(Promise5RunTest::wrongThrows);
        test.check(Promise5RunTest::fourThousandAreTheMost);
        test.check(Promise5RunTest::fourThousandByEachKind);
        test.check(Promise5RunTest::noneThen);
        test.check(Promise5RunTest::wrongIsNamedFirst);
        test.end();
    }

    private static void howManyLetters(Desk test) {
        test.sentence("What THE FORMAT makes of the ARGUMENTS is put out");
        test.same("run() of nothing", new FormatDesk().run(), 0);
        test.same("run() of no letters", Desk.desk("%.0d%.0x", 0, 0).run(), 0);
        test.same("run() of one", Desk.desk("a").run(), 1);
        test.same("run() of directives", Desk.desk("%d|%5d", -12, 3).run(), 9);
        test.makes("a-12|    3%", "a%d|%5d%%", -12, 3);
        test.same("the longest number", Desk.desk("%.200f", LONGEST).run(), 511);
    }

    private static void whatWasIsGone(Desk test) {
        test.sentence("(what was is gone, WRONG or not)");
        FormatDesk desk = Desk.desk("abcdefghijkl");
        desk.run();
        desk.clear();
        Desk.write(desk, "xy");
        test.same("letters of the second run", desk.run(), 2);
        test.same("nothing behind them", desk.letters(0), Desk.packed("xy"));
        test.fails("nor in the next eight", IndexOutOfBoundsException.class, () -> desk.letters(1));
        Desk.write(desk, "%");
        test.fails("WRONG", IllegalArgumentException.class, () -> desk.run());
        test.same("gone if WRONG", desk.count(4), 0);
        test.fails("letters(0)", IndexOutOfBoundsException.class, () -> desk.letters(0));
        desk.clear();
        desk.run();
        test.same("gone by a run() of nothing", desk.count(4), 0);
        test.same("WRONG is gone, too", desk.wrong(), -1);
    }

    private static void formatAndArgumentsStay(Desk test) {
        test.sentence("FORMAT and ARGUMENTS stay");
        FormatDesk again = Desk.desk("%d", 3);
        again.run();
        test.counts("after run()", again, 2, 1, 1, 1, 1);
        again.run();
        test.same("the same again", Desk.out(again), "3");
        again.argument(4);
        Desk.write(again, "%d");
        test.same("and more may come", again.run(), 2);
        test.same("behind them", Desk.out(again), "34");
        Desk.write(again, "%");
        test.fails("WRONG", IllegalArgumentException.class, () -> again.run());
        test.counts("after WRONG", again, 5, 2, 0, 0, 0);
        Desk.write(again, "%");
        again.run();
        test.same("what was WRONG goes on", Desk.out(again), "34%");
        Desk.write(again, "%200d".repeat(20));
        test.fails("more than 4000", UnsupportedOperationException.class, () -> again.run());
        test.counts("after too many", again, 106, 2, 0, 0, 0);
    }

    private static void wrongIsLookedForFirst(Desk test) {
        test.sentence("WRONG is looked for in all of it before anything is taken or put out");
        FormatDesk desk = Desk.desk("abc%d%*d%k", 1, 2, 3);
        test.fails("run()", IllegalArgumentException.class, () -> desk.run());
        test.counts("none taken, none put out", desk, 10, 3, 0, 0, 0);
        test.same("wrong()", desk.wrong(), 9);
        FormatDesk atTheEnd = Desk.desk("%d".repeat(199) + "a%", 1);
        test.fails("run()", IllegalArgumentException.class, () -> atTheEnd.run());
        test.counts("none taken, none put out", atTheEnd, 400, 1, 0, 0, 0);
        test.same("wrong()", atTheEnd.wrong(), 400);
    }

    private static void wrongThrows(Desk test) {
        test.sentence("IllegalArgumentException: WRONG.");
        test.isWrong(1, "%");
        test.isWrong(1, "%k");
        test.isWrong(1, "%201d");
        test.isWrong(0, "\u007f");
        FormatDesk desk = Desk.desk("%");
        test.fails("run()", IllegalArgumentException.class, () -> desk.run());
        test.fails("run() again", IllegalArgumentException.class, () -> desk.run());
    }

    private static void fourThousandAreTheMost(Desk test) {
        test.sentence("UnsupportedOperationException: there would be more than 4000");
        FormatDesk desk = Desk.desk("%200d".repeat(20));
        test.same("4000", desk.run(), 4000);
        test.same("the first eight", desk.letters(0), Desk.packed("        "));
        test.same("the last eight", desk.letters(499), Desk.packed("       0"));
        test.fails("letters(500)", IndexOutOfBoundsException.class, () -> desk.letters(500));
        Desk.write(desk, "%.0d");
        test.same("4000 and a directive that puts out nothing", desk.run(), 4000);
        test.same("it counts", desk.count(3), 21);
        Desk.write(desk, "x");
        test.fails("4001", UnsupportedOperationException.class, () -> desk.run());
        FormatDesk much = Desk.desk("%*d".repeat(30) + "%.200f".repeat(20));
        for (int i = 0; i < 60; i++) {
            much.argument(LONGEST);
        }
        test.fails("much more", UnsupportedOperationException.class, () -> much.run());
    }

    /** 4000 and 4001 letters, the last ones by a letter, a number, what fills it up, and what a * asks for. */
    private static void fourThousandByEachKind(Desk test) {
        test.sentence("UnsupportedOperationException: there would be more than 4000");
        String front = "%200d".repeat(19) + "%190d";
        String[] ten = {"abcdefghij", "%10d", "%-10d", "%010d", "%.10d", "%d234567890", "%10%", "%-10c", "%10.0f", "%.8f", "%.4e", "%#.10x",
            "%9d%%", "%4.1fabcdef"};
        for (String last : ten) {
            test.same("4000 by " + last, Desk.desk(front + last).run(), 4000);
            test.fails("4001 by " + last, UnsupportedOperationException.class, () -> Desk.desk(front + "|" + last).run());
            test.fails("4001 by a letter behind " + last, UnsupportedOperationException.class, () -> Desk.desk(front + last + "|").run());
            test.same("3999 and " + last, Desk.desk(front.replace("190", "189") + last).run(), 3999);
        }
        FormatDesk star = Desk.desk("%200%".repeat(19) + "%*%", 200);
        test.same("4000 by *", star.run(), 4000);
        FormatDesk more = Desk.desk("%200%".repeat(19) + "|%*%", -200);
        test.fails("4001 by *", UnsupportedOperationException.class, () -> more.run());
        FormatDesk zeros = Desk.desk("%200%".repeat(19) + "%0*.*f", 200, 198, 0);
        test.same("4000 by two *", zeros.run(), 4000);
        FormatDesk digits = Desk.desk("%200%".repeat(19) + "%0*.*f", 200, 199, 0);
        test.fails("4001 by two *", UnsupportedOperationException.class, () -> digits.run());
    }

    private static void noneThen(Desk test) {
        test.sentence("(none then)");
        FormatDesk byLetter = Desk.desk("%d" + "%200d".repeat(19) + "%198dx", 1);
        test.same("4000", byLetter.run(), 4000);
        Desk.write(byLetter, "y");
        tooMany(test, byLetter);
        FormatDesk byNumber = Desk.desk("%200d".repeat(19) + "%199d%2d", 1, 2, 3);
        tooMany(test, byNumber);
        byNumber.clear();
        test.same("it works on", byNumber.run(), 0);
        Desk.write(byNumber, "ok");
        byNumber.run();
        test.same("and puts out", Desk.out(byNumber), "ok");
    }

    private static void tooMany(Desk test, FormatDesk desk) {
        test.fails("4001", UnsupportedOperationException.class, () -> desk.run());
        test.same("none are put out", desk.count(4), 0);
        test.fails("letters(0)", IndexOutOfBoundsException.class, () -> desk.letters(0));
        test.same("none taken", desk.count(2), 0);
        test.same("no directives", desk.count(3), 0);
        test.same("not WRONG", desk.wrong(), -1);
    }

    private static void wrongIsNamedFirst(Desk test) {
        test.sentence("Of several exceptions of a call the one that its words name first is thrown, if they do not say otherwise.");
        FormatDesk desk = Desk.desk("%200d".repeat(21) + "%", 1, 2);
        test.fails("WRONG and more than 4000", IllegalArgumentException.class, () -> desk.run());
        test.same("wrong()", desk.wrong(), 106);
        test.counts("then", desk, 106, 2, 0, 0, 0);
        FormatDesk foreign = Desk.desk("%200d".repeat(21) + "\u007f");
        test.fails("another letter and more than 4000", IllegalArgumentException.class, () -> foreign.run());
        test.same("wrong()", foreign.wrong(), 105);
    }
}
