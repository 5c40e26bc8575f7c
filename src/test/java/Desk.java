import java.util.Arrays;

/** What the tests share: texts in and out of a FormatDesk, and a count of wrong answers. */
final class Desk {
    interface Call {
        void make();
    }

    interface Checks {
        void make(Desk test);
    }

    private static final int MOST_CALLS = 512;

    private int checked = 0;
    private int failed = 0;
    private int checkedBefore = 0;
    private String sentence = "";
    private FormatDesk worn = new FormatDesk();
    private int callsOfWorn = 0;

    /** Up to eight letters as one long, the first one highest. */
    static long packed(String letters) {
        long w = 0;
        for (int i = 0; i < 8; i++) {
            w = w << 8 | (i < letters.length() ? letters.charAt(i) : 0);
        }
        return w;
    }

    static void write(FormatDesk desk, String format) {
        for (int i = 0; i < format.length(); i += 8) {
            desk.text(packed(format.substring(i, Math.min(format.length(), i + 8))));
        }
    }

    static FormatDesk desk(String format, long... arguments) {
        FormatDesk desk = new FormatDesk();
        fill(desk, format, arguments);
        return desk;
    }

    private static void fill(FormatDesk desk, String format, long... arguments) {
        write(desk, format);
        for (long argument : arguments) {
            desk.argument(argument);
        }
    }

    /** All that was put out, read by letters(). */
    static String out(FormatDesk desk) {
        StringBuilder out = new StringBuilder();
        int size = desk.count(4);
        for (int k = 0; 8 * k < size; k++) {
            long eight = desk.letters(k);
            for (int i = 8 * k; i < size && i < 8 * k + 8; i++) {
                out.append((char) (eight >>> (56 - 8 * (i % 8)) & 255));
            }
        }
        return out.toString();
    }

    static String made(String format, long... arguments) {
        return madeBy(new FormatDesk(), format, arguments);
    }

    /** What run() puts out, or what is thrown on the way. */
    private static String madeBy(FormatDesk desk, String format, long... arguments) {
        try {
            fill(desk, format, arguments);
            desk.run();
            return out(desk);
        } catch (RuntimeException e) {
            return "throws." + e.getClass().getSimpleName();
        }
    }

    /** Makes the checks; an exception that is not due there is one wrong answer, and the next checks are made. */
    void check(Checks checks) {
        try {
            checks.make(this);
        } catch (RuntimeException e) {
            failed++;
            System.out.println("[" + sentence + "] a call threw what is not due:");
            e.printStackTrace(System.out);
        }
    }

    /** The words of the document that the checks behind it are about; there must be some. */
    void sentence(String words) {
        if (!sentence.isEmpty() && checked == checkedBefore) {
            failed++;
            System.out.println("[" + sentence + "] has no check");
        }
        sentence = words;
        checkedBefore = checked;
    }

    void same(String what, Object got, Object due) {
        checked++;
        if (!got.equals(due)) {
            failed++;
            System.out.println("[" + sentence + "] " + what + " answered <" + got + ">, due is <" + due + ">");
        }
    }

    /** Checked on a new object, and on one that has been used; they stay within the calls that are promised. */
    void makes(String due, String format, long... arguments) {
        String what = "\"" + format + "\" of " + Arrays.toString(arguments);
        same(what, made(format, arguments), due);
        int calls = 3 + (format.length() + 7) / 8 + arguments.length + (due.length() + 7) / 8;
        same(what + " by an object that has been used", madeByWorn(calls, format, arguments), due);
    }

    private String madeByWorn(int calls, String format, long... arguments) {
        callsOfWorn += calls;
        if (callsOfWorn > MOST_CALLS) {
            worn = new FormatDesk();
            callsOfWorn = calls;
        }
        worn.clear();
        return madeBy(worn, format, arguments);
    }

    void makesOfNumber(String due, String format, double argument) {
        makes(due, format, Double.doubleToRawLongBits(argument));
    }

    void fails(String what, Class<? extends RuntimeException> due, Call call) {
        Object got = "nothing";
        try {
            call.make();
        } catch (RuntimeException e) {
            got = e.getClass();
        }
        same(what + " throws", got, due);
    }

    /** The place where this format is WRONG, by run() and wrong(). */
    void isWrong(int due, String format, long... arguments) {
        FormatDesk desk = desk(format, arguments);
        fails("run() of \"" + format + "\"", IllegalArgumentException.class, () -> desk.run());
        same("wrong() of \"" + format + "\"", desk.wrong(), due);
    }

    /** What count() tells, from what 0 on. */
    void counts(String when, FormatDesk desk, int... due) {
        for (int what = 0; what < due.length; what++) {
            same("count(" + what + ") " + when, desk.count(what), due[what]);
        }
    }

    void end() {
        sentence("");
        System.out.println(checked + " checked, " + failed + " not as due");
        if (failed != 0 || checked == 0) {
            System.exit(1);
        }
    }
}
