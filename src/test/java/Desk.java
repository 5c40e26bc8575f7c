/** What the tests share: texts in and out of a FormatDesk, and a count of wrong answers. */
final class Desk {
    interface Call {
        void make();
    }

    private int checked = 0;
    private int failed = 0;

    /** Up to eight letters as one long, the first one highest. */
    static long packed(String letters) {
        long w = 0;
        for (int i = 0; i < 8; i++) {
            w = w << 8 | (i < letters.length() ? letters.charAt(i) : 0);
        }
        return w;
    }

    static void write(FormatDesk desk, String format) {
        for (int i = 0; i < format.length(); i += 8) {
            desk.text(packed(format.substring(i, Math.min(format.length(), i + 8))));
        }
    }

    static FormatDesk desk(String format, long... arguments) {
        FormatDesk desk = new FormatDesk();
        write(desk, format);
        for (long argument : arguments) {
            desk.argument(argument);
        }
        return desk;
    }

    /** All that was put out, read by letters(). */
    static String out(FormatDesk desk) {
        StringBuilder out = new StringBuilder();
        int size = desk.count(4);
        for (int i = 0; i < size; i++) {
            out.append((char) (desk.letters(i / 8) >>> (56 - 8 * (i % 8)) & 255));
        }
        return out.toString();
    }

    static String made(String format, long... arguments) {
        FormatDesk desk = desk(format, arguments);
        desk.run();
        return out(desk);
    }

    void same(String what, Object got, Object due) {
        checked++;
        if (!got.equals(due)) {
            failed++;
            System.out.println(what + " answered <" + got + ">, due is <" + due + ">");
        }
    }

    void makes(String due, String format, long... arguments) {
        same("\"" + format + "\" of " + java.util.Arrays.toString(arguments), made(format, arguments), due);
    }

    void makesOfNumber(String due, String format, double argument) {
        makes(due, format, Double.doubleToRawLongBits(argument));
    }

    void fails(String what, Class<? extends RuntimeException> due, Call call) {
        Object got = "nothing";
        try {
            call.make();
        } catch (RuntimeException e) {
            got = e.getClass();
        }
        same(what + " throws", got, due);
    }

    /** The place where this format is WRONG, by run() and wrong(). */
    void isWrong(int due, String format, long... arguments) {
        FormatDesk desk = desk(format, arguments);
        fails("run() of \"" + format + "\"", IllegalArgumentException.class, () -> desk.run());
        same("wrong() of \"" + format + "\"", desk.wrong(), due);
    }

    void end() {
        System.out.println(checked + " checked, " + failed + " not as due");
        if (failed != 0 || checked == 0) {
            System.exit(1);
        }
    }
}
