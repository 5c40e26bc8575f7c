import java.util.Random;

/** Term 3: many floating-point numbers against the exact arithmetic of the Java library. */
public final class Term3OracleTest {
    private static final long[] EDGES = {
        0, 1, 2, 0xfffffffffffffL, 0x10000000000000L, 0x10000000000001L, 0x7fefffffffffffffL, 0x3ff0000000000000L,
        0x3fefffffffffffffL, 0x3ff0000000000001L, 0x4340000000000000L, 0x433fffffffffffffL, 0x7fe0000000000000L
    };

    public static void main(String[] args) {
        Desk test = new Desk();
        test.sentence("floating-point numbers are written exactly as they are, and rounded once");
        Random random = new Random(11);
        for (long bits : EDGES) {
            for (int precision : new int[] {0, 1, 2, 6, 12, 13, 14, 17, 100, 200}) {
                checkAll(test, bits, precision);
            }
        }
        for (int n = 0; n < 6000; n++) {
            int precision = random.nextInt(8) == 0 ? random.nextInt(201) : random.nextInt(20);
            checkAll(test, someBits(random), precision);
        }
        test.end();
    }

    private static long someBits(Random random) {
        long fraction = random.nextLong() & 0xfffffffffffffL & -1L << random.nextInt(53);
        switch (random.nextInt(6)) {
            case 0:
                return fraction | (long) random.nextInt(2047) << 52;
            case 1:
                return fraction >>> random.nextInt(53);
            case 2:
                return Double.doubleToRawLongBits(random.nextInt(4000) / 16.0);
            case 3:
                return Double.doubleToRawLongBits(Double.parseDouble(random.nextInt(100000) + "e" + (random.nextInt(50) - 25)));
            case 4:
                return Double.doubleToRawLongBits(Double.parseDouble("1e" + (random.nextInt(600) - 300))) + random.nextInt(3) - 1;
            default:
                return fraction | (long) (990 + random.nextInt(70)) << 52;
        }
    }

    private static void checkAll(Desk test, long bits, int precision) {
        for (String kind : new String[] {"f", "e", "g", "a"}) {
            String exact = "%." + precision + kind;
            test.makes(Model.made(exact, bits), exact, bits);
            String great = "%.*" + kind.toUpperCase();
            test.makes(Model.made(great, precision, bits | Long.MIN_VALUE), great, precision, bits | Long.MIN_VALUE);
            String hash = "%#." + precision + kind;
            test.makes(Model.made(hash, bits), hash, bits);
        }
        String shortest = Double.toHexString(Double.longBitsToDouble(bits)).replace(".0p", "p").replaceFirst("p(\\d)", "p+$1");
        test.makes(shortest, "%a", bits);
    }
}
