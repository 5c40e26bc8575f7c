import java.math.BigDecimal;
import java.math.BigInteger;
import java.math.MathContext;
import java.math.RoundingMode;
import java.util.ArrayList;
import java.util.List;
import java.util.regex.Matcher;
import java.util.regex.Pattern;

/** The document once more, in the plainest form that the Java library allows; the tests compare it with FormatDesk. */
final class Model {
    private static final Pattern DIRECTIVE = Pattern.compile("%([-+ #0]*+)(\\*|[1-9][0-9]{0,2}+)?+(?:\\.(\\*|[0-9]{0,3}+))?+(.?)");
    private static final String KINDS = "diuoxXceEfFgGaA%";

    private String format = "";
    private final List<Long> arguments = new ArrayList<>();
    private String out = "";
    private int wrong = -1;
    private int taken = 0;
    private int directives = 0;

    static Model of(String format, long... arguments) {
        Model model = new Model();
        model.format = format;
        for (long argument : arguments) {
            model.argument(argument);
        }
        return model;
    }

    static String made(String format, long... arguments) {
        Model model = of(format, arguments);
        model.run();
        return model.out;
    }

    String text(long w) {
        String come = "";
        for (int shift = 56; shift >= 0 && (w >>> shift & 255) != 0; shift -= 8) {
            come += (char) (w >>> shift & 255);
        }
        if (format.length() + come.length() > 400) {
            return "throws.IndexOutOfBoundsException";
        }
        format += come;
        return "" + format.length();
    }

    String argument(long v) {
        if (arguments.size() == 60) {
            return "throws.IndexOutOfBoundsException";
        }
        arguments.add(v);
        return "" + arguments.size();
    }

    String clear() {
        format = "";
        arguments.clear();
        return "";
    }

    String run() {
        out = "";
        taken = 0;
        directives = 0;
        wrong = placeOfWrong();
        if (wrong >= 0) {
            return "throws.IllegalArgumentException";
        }
        String all = putOut();
        if (all.length() > 4000) {
            taken = 0;
            directives = 0;
            return "throws.UnsupportedOperationException";
        }
        out = all;
        return "" + out.length();
    }

    String wrong() {
        return "" + wrong;
    }

    String letters(int k) {
        if (k < 0 || 8L * k >= out.length()) {
            return "throws.IndexOutOfBoundsException";
        }
        return "" + Desk.packed(out.substring(8 * k));
    }

    String count(int what) {
        int[] counts = {format.length(), arguments.size(), taken, directives, out.length()};
        return what < 0 || what > 4 ? "throws.IllegalArgumentException" : "" + counts[what];
    }

    private int placeOfWrong() {
        for (int i = 0; i < format.length(); i++) {
            if (format.charAt(i) < 32 || format.charAt(i) > 126) {
                return i;
            }
        }
        Matcher directive = DIRECTIVE.matcher(format);
        for (int at = 0; directive.find(at); at = directive.end()) {
            if (isTooLarge(directive.group(2))) {
                return directive.start(2);
            }
            if (isTooLarge(directive.group(3))) {
                return directive.start(3);
            }
            if (directive.group(4).isEmpty() || !KINDS.contains(directive.group(4))) {
                return directive.start(4);
            }
        }
        return -1;
    }

    private static boolean isTooLarge(String number) {
        return number != null && number.length() == 3 && number.compareTo("200") > 0;
    }

    private String putOut() {
        StringBuilder all = new StringBuilder();
        Matcher directive = DIRECTIVE.matcher(format);
        int at = 0;
        for (; directive.find(at); at = directive.end()) {
            all.append(format, at, directive.start());
            all.append(done(directive.group(1), directive.group(2), directive.group(3), directive.group(4)));
            directives++;
        }
        return all.append(format.substring(at)).toString();
    }

    private long take() {
        return taken < arguments.size() ? arguments.get(taken++) : 0;
    }

    private int number(String written, int none) {
        if (written == null) {
            return none;
        }
        if (written.equals("*")) {
            return (int) Math.max(-200, Math.min(200, take()));
        }
        return written.isEmpty() ? 0 : Integer.parseInt(written);
    }

    private String done(String flags, String writtenWidth, String writtenPrecision, String kind) {
        int width = number(writtenWidth, 0);
        int precision = Math.max(-1, number(writtenPrecision, -1));
        boolean left = flags.contains("-") || width < 0;
        long value = kind.equals("%") ? 0 : take();
        String small = kind.toLowerCase();
        String sign = "";
        String base = "";
        String digits;
        boolean zeros = flags.contains("0") && !left;
        if (small.equals("%")) {
            return fill("", "", "%", width, left, false);
        } else if (small.equals("c")) {
            char letter = (char) (value & 127);
            return fill("", "", letter < 32 || letter > 126 ? "?" : "" + letter, width, left, false);
        } else if ("diuox".contains(small)) {
            boolean signed = "di".contains(small);
            digits = whole(value, small, precision, flags.contains("#"));
            sign = signed ? sign(value < 0, flags) : "";
            base = small.equals("x") && flags.contains("#") && value != 0 ? "0x" : "";
            zeros = zeros && precision < 0;
        } else {
            double number = Double.longBitsToDouble(value);
            sign = sign(value < 0, flags);
            if (Double.isNaN(number) || Double.isInfinite(number)) {
                digits = Double.isNaN(number) ? "nan" : "inf";
                zeros = false;
            } else {
                base = small.equals("a") ? "0x" : "";
                digits = floating(value & Long.MAX_VALUE, small, precision, flags.contains("#"));
            }
        }
        String all = fill(sign, base, digits, width, left, zeros);
        return kind.equals(small) ? all : all.toUpperCase();
    }

    private static String sign(boolean negative, String flags) {
        return negative ? "-" : flags.contains("+") ? "+" : flags.contains(" ") ? " " : "";
    }

    private static String fill(String sign, String base, String digits, int width, boolean left, boolean zeros) {
        String all = sign + base + digits;
        int missing = Math.max(0, Math.abs(width) - all.length());
        if (left) {
            return all + " ".repeat(missing);
        }
        return zeros ? sign + base + "0".repeat(missing) + digits : " ".repeat(missing) + all;
    }

    private static String whole(long value, String kind, int precision, boolean hash) {
        BigInteger number = new BigInteger(Long.toUnsignedString(value));
        if ("di".contains(kind)) {
            number = BigInteger.valueOf(value).abs();
        }
        String digits = number.toString(kind.equals("o") ? 8 : kind.equals("x") ? 16 : 10);
        if (precision == 0 && value == 0) {
            digits = "";
        }
        digits = "0".repeat(Math.max(0, precision - digits.length())) + digits;
        return kind.equals("o") && hash && !digits.startsWith("0") ? "0" + digits : digits;
    }

    private static String floating(long bits, String kind, int precision, boolean hash) {
        BigDecimal number = new BigDecimal(Double.longBitsToDouble(bits));
        int p = precision < 0 ? 6 : precision;
        switch (kind) {
            case "f":
                return fixed(number, p, hash);
            case "e":
                return withExponent(number, p, hash);
            case "g":
                return general(number, Math.max(p, 1), hash);
            default:
                return hexadecimal(bits, precision, hash);
        }
    }

    private static String fixed(BigDecimal number, int p, boolean hash) {
        return number.setScale(p, RoundingMode.HALF_EVEN).toPlainString() + (hash && p == 0 ? "." : "");
    }

    private static int exponent(BigDecimal number, int digits) {
        BigDecimal rounded = number.round(new MathContext(digits, RoundingMode.HALF_EVEN));
        return number.signum() == 0 ? 0 : rounded.precision() - rounded.scale() - 1;
    }

    private static String withExponent(BigDecimal number, int p, boolean hash) {
        int x = exponent(number, p + 1);
        return fixed(number.scaleByPowerOfTen(-x), p, hash) + String.format("e%s%02d", x < 0 ? "-" : "+", Math.abs(x));
    }

    private static String general(BigDecimal number, int p, boolean hash) {
        int x = exponent(number, p);
        String all = x >= -4 && x < p ? fixed(number, p - 1 - x, hash) : withExponent(number, p - 1, hash);
        String front = all.contains("e") ? all.substring(0, all.indexOf('e')) : all;
        String end = all.substring(front.length());
        return !hash && front.contains(".") ? front.replaceFirst("\\.?0*$", "") + end : all;
    }

    private static String hexadecimal(long bits, int precision, boolean hash) {
        boolean noExponentBits = bits >>> 52 == 0;
        String fraction = String.format("%013x", bits & 0xfffffffffffffL);
        int p = precision < 0 ? fraction.replaceFirst("0*$", "").length() : precision;
        BigDecimal significand = new BigDecimal(new BigInteger((noExponentBits ? "0" : "1") + fraction, 16));
        BigDecimal unit = new BigDecimal(BigInteger.ONE.shiftLeft(52));
        BigDecimal places = new BigDecimal(BigInteger.ONE.shiftLeft(4 * p));
        String digits = significand.multiply(places).divide(unit, 0, RoundingMode.HALF_EVEN).toBigInteger().toString(16);
        digits = "0".repeat(Math.max(0, p + 1 - digits.length())) + digits;
        int exponent = bits == 0 ? 0 : noExponentBits ? -1022 : (int) (bits >>> 52) - 1023;
        return digits.substring(0, 1) + (p > 0 || hash ? "." : "") + digits.substring(1) + (exponent < 0 ? "p-" : "p+") + Math.abs(exponent);
    }
}
