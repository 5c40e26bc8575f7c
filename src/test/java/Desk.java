import java.util.Arrays;

/** What the tests share: texts in and out of a FormatDesk, and a count of wrong answers. */
final class Desk {
    interface Call {
        void make();
    }

    /** An object is promised for 512 calls; a check of the worn one may need some 100. */
    private static final int MOST_WORN = 400;

    private int checked = 0;
    private int failed = 0;
    private FormatDesk worn = new FormatDesk();
    private int callsOfWorn = 0;

    /** Up to eight letters as one long, the first one highest. */
    static long packed(String letters) {
        long w = 0;
        for (int i = 0; i < 8; i++) {
            w = w << 8 | (i < letters.length() ? letters.charAt(i) : 0);
        }
        return w;
    }

    static void write(FormatDesk desk, String format) {
        for (int i = 0; i < format.length(); i += 8) {
            desk.text(packed(format.substring(i, Math.min(format.length(), i + 8))));
        }
    }

    static FormatDesk desk(String format, long... arguments) {
        FormatDesk desk = new FormatDesk();
        write(desk, format);
        for (long argument : arguments) {
            desk.argument(argument);
        }
        return desk;
    }

    /** All that was put out, read by letters(). */
    static String out(FormatDesk desk) {
        StringBuilder out = new StringBuilder();
        int size = desk.count(4);
        for (int k = 0; 8 * k < size; k++) {
            long eight = desk.letters(k);
            for (int i = 8 * k; i < size && i < 8 * k + 8; i++) {
                out.append((char) (eight >>> (56 - 8 * (i % 8)) & 255));
            }
        }
        return out.toString();
    }

    static String made(String format, long... arguments) {
        FormatDesk desk = desk(format, arguments);
        desk.run();
        return out(desk);
    }

    void same(String what, Object got, Object due) {
        checked++;
        if (!got.equals(due)) {
            failed++;
            System.out.println(what + " answered <" + got + ">, due is <" + due + ">");
        }
    }

    void makes(String due, String format, long... arguments) {
        String what = "\"" + format + "\" of " + Arrays.toString(arguments);
        same(what, made(format, arguments), due);
        same(what + " by an object that has been used", madeByWorn(format, arguments), due);
    }

    private String madeByWorn(String format, long... arguments) {
        if (callsOfWorn > MOST_WORN) {
            worn = new FormatDesk();
            callsOfWorn = 0;
        }
        worn.clear();
        write(worn, format);
        for (long argument : arguments) {
            worn.argument(argument);
        }
        worn.run();
        String out = out(worn);
        callsOfWorn += 3 + (format.length() + 7) / 8 + arguments.length + (out.length() + 7) / 8;
        return out;
    }

    void makesOfNumber(String due, String format, double argument) {
        makes(due, format, Double.doubleToRawLongBits(argument));
    }

    void fails(String what, Class<? extends RuntimeException> due, Call call) {
        Object got = "nothing";
        try {
            call.make();
        } catch (RuntimeException e) {
            got = e.getClass();
        }
        same(what + " throws", got, due);
    }

    /** The place where this format is WRONG, by run() and wrong(). */
    void isWrong(int due, String format, long... arguments) {
        FormatDesk desk = desk(format, arguments);
        fails("run() of \"" + format + "\"", IllegalArgumentException.class, () -> desk.run());
        same("wrong() of \"" + format + "\"", desk.wrong(), due);
    }

    void end() {
        System.out.println(checked + " checked, " + failed + " not as due");
        if (failed != 0 || checked == 0) {
            System.exit(1);
        }
    }
}
