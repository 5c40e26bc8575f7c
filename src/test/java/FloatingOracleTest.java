import java.math.BigDecimal;
import java.math.BigInteger;
import java.math.MathContext;
import java.math.RoundingMode;
import java.util.Random;

/** Term 3: many floating-point numbers against the exact arithmetic of the Java library. */
public final class FloatingOracleTest {
    private static final long[] EDGES = {
        0, 1, 2, 0xfffffffffffffL, 0x10000000000000L, 0x10000000000001L, 0x7fefffffffffffffL, 0x3ff0000000000000L,
        0x3fefffffffffffffL, 0x3ff0000000000001L, 0x4340000000000000L, 0x433fffffffffffffL, 0x7fe0000000000000L
    };

    public static void main(String[] args) {
        Desk test = new Desk();
        Random random = new Random(11);
        for (long bits : EDGES) {
            for (int precision : new int[] {0, 1, 2, 6, 12, 13, 14, 17, 100, 200}) {
                checkAll(test, bits, precision);
            }
        }
        for (int n = 0; n < 6000; n++) {
            int precision = random.nextInt(8) == 0 ? random.nextInt(201) : random.nextInt(20);
            checkAll(test, someBits(random), precision);
        }
        test.end();
    }

    private static long someBits(Random random) {
        long fraction = random.nextLong() & 0xfffffffffffffL & -1L << random.nextInt(53);
        switch (random.nextInt(6)) {
            case 0:
                return fraction | (long) random.nextInt(2047) << 52;
            case 1:
                return fraction >>> random.nextInt(53);
            case 2:
                return Double.doubleToRawLongBits(random.nextInt(4000) / 16.0);
            case 3:
                return Double.doubleToRawLongBits(Double.parseDouble(random.nextInt(100000) + "e" + (random.nextInt(50) - 25)));
            case 4:
                return Double.doubleToRawLongBits(Double.parseDouble("1e" + (random.nextInt(600) - 300))) + random.nextInt(3) - 1;
            default:
                return fraction | (long) (990 + random.nextInt(70)) << 52;
        }
    }

    private static void checkAll(Desk test, long bits, int precision) {
        BigDecimal value = new BigDecimal(Double.longBitsToDouble(bits));
        check(test, fixed(value, precision, false), "f", bits, precision);
        check(test, withExponent(value, precision, false), "e", bits, precision);
        check(test, general(value, precision), "g", bits, precision);
        test.makes(sharpGeneral(value, precision), "%#." + precision + "g", bits);
        check(test, hexadecimal(bits, precision), "a", bits, precision);
        String shortest = Double.toHexString(Double.longBitsToDouble(bits)).replace(".0p", "p").replaceFirst("p(\\d)", "p+$1");
        test.makes(shortest, "%a", bits);
    }

    private static void check(Desk test, String due, String kind, long bits, int precision) {
        test.makes(due, "%." + precision + kind, bits);
        test.makes("-" + due.toUpperCase(), "%.*" + kind.toUpperCase(), precision, bits | Long.MIN_VALUE);
    }

    private static String fixed(BigDecimal value, int precision, boolean point) {
        return value.setScale(precision, RoundingMode.HALF_EVEN).toPlainString() + (point && precision == 0 ? "." : "");
    }

    private static int exponent(BigDecimal value, int digits) {
        BigDecimal rounded = value.round(new MathContext(digits, RoundingMode.HALF_EVEN));
        return value.signum() == 0 ? 0 : rounded.precision() - rounded.scale() - 1;
    }

    private static String withExponent(BigDecimal value, int precision, boolean point) {
        int exponent = exponent(value, precision + 1);
        return fixed(value.scaleByPowerOfTen(-exponent), precision, point)
            + String.format("e%s%02d", exponent < 0 ? "-" : "+", Math.abs(exponent));
    }

    private static String sharpGeneral(BigDecimal value, int precision) {
        int digits = Math.max(precision, 1);
        int exponent = exponent(value, digits);
        if (exponent >= -4 && exponent < digits) {
            return fixed(value, digits - 1 - exponent, true);
        }
        return withExponent(value, digits - 1, true);
    }

    private static String general(BigDecimal value, int precision) {
        String sharp = sharpGeneral(value, precision);
        int e = sharp.indexOf('e') < 0 ? sharp.length() : sharp.indexOf('e');
        return sharp.substring(0, e).replaceFirst("\\.?0*$", "").concat(sharp.substring(e));
    }

    private static String hexadecimal(long bits, int precision) {
        boolean small = bits >>> 52 == 0;
        BigDecimal significand = new BigDecimal(bits & 0xfffffffffffffL | (small ? 0 : 1L << 52));
        BigInteger scaled = significand.multiply(new BigDecimal(BigInteger.ONE.shiftLeft(4 * precision)))
            .divide(new BigDecimal(1L << 52), 0, RoundingMode.HALF_EVEN).toBigInteger();
        String digits = scaled.toString(16);
        digits = "0".repeat(Math.max(0, precision + 1 - digits.length())) + digits;
        int exponent = bits == 0 ? 0 : small ? -1022 : (int) (bits >>> 52) - 1023;
        return "0x" + digits.charAt(0) + (precision > 0 ? "." : "") + digits.substring(1)
            + (exponent < 0 ? "p-" : "p+") + Math.abs(exponent);
    }
}
