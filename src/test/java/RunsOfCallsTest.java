import java.util.Random;

/** Runs of 512 calls on one object, each answer compared with the model's. */
public final class RunsOfCallsTest {
    private static final int RUNS = 400;
    private static final int CALLS = 512;
    private static final String KINDS = "diuoxXceEfFgGaA%";
    private static final double[] NUMBERS = {0.0, -0.0, 1, -1, 0.5, 1.5, 2.5, 9.5, 99.5, 0.1, 2.675, 999999.5, 1e-4, 1e-5, 9.9999995e-5, 1e15, 1e22,
        1e100, 5e-324, -5e-324, 2.2250738585072014e-308, 1.7976931348623157e308, Double.POSITIVE_INFINITY, Double.NEGATIVE_INFINITY, Double.NaN};

    private final Random random;
    /** A crowded run seldom clears, is seldom WRONG and puts out much, up to what has no room. */
    private final boolean crowded;
    private FormatDesk desk = new FormatDesk();
    private Model model = new Model();

    private RunsOfCallsTest(int seed) {
        random = new Random(seed);
        crowded = seed % 4 == 0;
    }

    public static void main(String[] args) {
        Desk test = new Desk();
        test.sentence("An object is used for at most 512 calls after it has been made");
        for (int seed = 0; seed < RUNS; seed++) {
            new RunsOfCallsTest(seed).compare(test, seed);
        }
        test.end();
    }

    private void compare(Desk test, int seed) {
        for (int call = 1; call <= CALLS; call++) {
            someCall(test, "run of calls " + seed + ", call " + call + ": ");
        }
    }

    private void someCall(Desk test, String when) {
        int dice = random.nextInt(100);
        if (dice < 34) {
            long w = someText();
            test.same(when + "text(" + w + ")", answer(() -> "" + desk.text(w)), model.text(w));
        } else if (dice < 55) {
            long v = someArgument();
            test.same(when + "argument(" + v + ")", answer(() -> "" + desk.argument(v)), model.argument(v));
        } else if (dice < (crowded ? 56 : 61)) {
            desk.clear();
            model.clear();
        } else if (dice < 72) {
            test.same(when + "run()", answer(() -> "" + desk.run()), model.run());
        } else if (dice < 76) {
            test.same(when + "wrong()", answer(() -> "" + desk.wrong()), model.wrong());
        } else if (dice < 90) {
            int k = random.nextInt(12) == 0 ? random.nextInt() : random.nextInt(random.nextInt(3) == 0 ? 501 : 12) - 1;
            test.same(when + "letters(" + k + ")", answer(() -> "" + desk.letters(k)), model.letters(k));
        } else {
            int what = random.nextInt(20) == 0 ? random.nextInt() : random.nextInt(7) - 1;
            test.same(when + "count(" + what + ")", answer(() -> "" + desk.count(what)), model.count(what));
        }
    }

    private interface Call {
        String make();
    }

    private static String answer(Call call) {
        try {
            return call.make();
        } catch (RuntimeException e) {
            return "throws." + e.getClass().getSimpleName();
        }
    }

    private long someText() {
        int dice = random.nextInt(400);
        if (dice == 0 && !crowded) {
            return random.nextLong();
        }
        if (dice < (crowded ? 1 : 20)) {
            return Desk.packed("%" + (char) (32 + random.nextInt(95)) + (char) (32 + random.nextInt(95)) + "d");
        }
        if (dice < 40) {
            return Desk.packed("abc, d |".substring(random.nextInt(8)));
        }
        StringBuilder directive = new StringBuilder("%");
        for (int i = random.nextInt(3); i > 0; i--) {
            directive.append("-+ #0".charAt(random.nextInt(5)));
        }
        directive.append(someNumber());
        if (random.nextBoolean()) {
            directive.append('.').append(someNumber());
        }
        directive.append(KINDS.charAt(random.nextInt(KINDS.length())));
        return Desk.packed(directive.length() > 8 ? "%" + directive.charAt(directive.length() - 1) : directive.toString());
    }

    private String someNumber() {
        if (crowded && random.nextInt(3) > 0) {
            return "" + (100 + random.nextInt(101));
        }
        int dice = random.nextInt(40);
        if (dice < 12) {
            return "";
        }
        if (dice < 20) {
            return "*";
        }
        return "" + (1 + (dice == 20 && !crowded ? random.nextInt(210) : random.nextInt(dice < 25 ? 200 : 20)));
    }

    private long someArgument() {
        switch (random.nextInt(8)) {
            case 0:
            case 1:
                return random.nextInt(50) - 15;
            case 2:
                return random.nextInt(600) - 300;
            case 3:
                return random.nextLong();
            case 4:
                return random.nextLong() >> random.nextInt(64);
            case 5:
                return Double.doubleToRawLongBits((random.nextInt(40000) - 20000) / 16.0);
            case 6:
                return Double.doubleToRawLongBits(Double.parseDouble(random.nextInt(100000) + "e" + (random.nextInt(60) - 30)));
            default:
                return Double.doubleToRawLongBits(NUMBERS[random.nextInt(NUMBERS.length)]);
        }
    }
}
