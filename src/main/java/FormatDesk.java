/**
 * A formatter: a format with directives and arguments become letters.
 *
 * Every row is made once, with the object: run() makes no object, however
 * often it is called.
 */
public final class FormatDesk {
    private static final int MOST_FORMAT_LETTERS = 400;
    private static final int MOST_ARGUMENTS = 60;
    private static final int MOST_OUT = 4000;
    private static final int MOST_WRITTEN = 200;
    private static final int NONE = -1;

    private final Format format = new Format();
    private final long[] arguments = new long[MOST_ARGUMENTS];
    private int argumentCount = 0;

    private final byte[] out = new byte[MOST_OUT];
    private int outCount = 0;
    private int wrongAt = NONE;
    private int taken = 0;
    private int directivesDone = 0;

    private final Directive directive = new Directive();
    private final Writer writer = new Writer();

    public FormatDesk() {
    }

    public int text(long w) throws IndexOutOfBoundsException {
        int octets = Format.octetsBeforeZero(w);
        if (format.size + octets > MOST_FORMAT_LETTERS) {
            throw new IndexOutOfBoundsException();
        }
        format.add(w, octets);
        return format.size;
    }

    public int argument(long v) throws IndexOutOfBoundsException {
        if (argumentCount >= MOST_ARGUMENTS) {
            throw new IndexOutOfBoundsException();
        }
        arguments[argumentCount] = v;
        argumentCount++;
        return argumentCount;
    }

    public void clear() {
        format.size = 0;
        argumentCount = 0;
    }

    public int run() throws IllegalArgumentException, UnsupportedOperationException {
        forgetLatestRun();
        wrongAt = placeOfWrong();
        if (wrongAt != NONE) {
            throw new IllegalArgumentException();
        }
        if (!putOutAll()) {
            forgetLatestRun();
            throw new UnsupportedOperationException();
        }
        return outCount;
    }

    public int wrong() {
        return wrongAt;
    }

    public long letters(int k) throws IndexOutOfBoundsException {
        // Divided, not multiplied: 8 k may be more than an int holds.
        if (k < 0 || k >= (outCount + 7) / 8) {
            throw new IndexOutOfBoundsException();
        }
        long eight = 0;
        for (int i = 8 * k; i < 8 * k + 8; i++) {
            eight = eight << 8 | (i < outCount ? out[i] : 0);
        }
        return eight;
    }

    public int count(int what) throws IllegalArgumentException {
        switch (what) {
            case 0:
                return format.size;
            case 1:
                return argumentCount;
            case 2:
                return taken;
            case 3:
                return directivesDone;
            case 4:
                return outCount;
            default:
                throw new IllegalArgumentException();
        }
    }

    private void forgetLatestRun() {
        outCount = 0;
        wrongAt = NONE;
        taken = 0;
        directivesDone = 0;
    }

    /** Where THE FORMAT is WRONG, NONE if it is not. */
    private int placeOfWrong() {
        int foreign = format.placeOfForeignLetter();
        if (foreign != NONE) {
            return foreign;
        }
        for (int at = 0; at < format.size; at++) {
            if (format.letterAt(at) == '%') {
                if (!directive.read(format, at)) {
                    return directive.at;
                }
                at = Math.max(at, directive.at);
            }
        }
        return NONE;
    }

    /** Whether all that THE FORMAT, which is not WRONG, puts out has room. */
    private boolean putOutAll() {
        for (int at = 0; at < format.size; at++) {
            boolean fits;
            if (format.letterAt(at) == '%') {
                directive.read(format, at);
                at = Math.max(at, directive.at);
                takeStars();
                writer.write(directive.kind == '%' ? 0 : take(), directive);
                fits = putOutPiece(writer.piece);
                directivesDone++;
            } else {
                fits = putOut(format.letterAt(at));
            }
            if (!fits) {
                return false;
            }
        }
        return true;
    }

    private void takeStars() {
        if (directive.widthIsTaken) {
            directive.useTakenWidth(takeForStar());
        }
        if (directive.precisionIsTaken) {
            directive.useTakenPrecision(takeForStar());
        }
    }

    private int takeForStar() {
        return (int) Math.max(-MOST_WRITTEN, Math.min(MOST_WRITTEN, take()));
    }

    /** The next ARGUMENT; 0, which does not count as taken, if there is none any more. */
    private long take() {
        if (taken >= argumentCount) {
            return 0;
        }
        long value = arguments[taken];
        taken++;
        return value;
    }

    /** Whether the piece, with what fills it up to WIDTH, has room. */
    private boolean putOutPiece(Piece piece) {
        int missing = Math.max(0, directive.width - piece.size);
        if (outCount + piece.size + missing > MOST_OUT) {
            return false;
        }
        boolean zeros = directive.zero && !directive.left && piece.zeroPlace != NONE;
        int place = directive.left ? piece.size : zeros ? piece.zeroPlace : 0;
        for (int i = 0; i < place; i++) {
            putOut(piece.letterAt(i));
        }
        for (int i = 0; i < missing; i++) {
            putOut(zeros ? '0' : ' ');
        }
        for (int i = place; i < piece.size; i++) {
            putOut(piece.letterAt(i));
        }
        return true;
    }

    /** Whether the letter has room. */
    private boolean putOut(int letter) {
        if (outCount >= MOST_OUT) {
            return false;
        }
        out[outCount] = (byte) letter;
        outCount++;
        return true;
    }

    /** THE FORMAT: its letters, as octets that nobody has judged yet. */
    private static final class Format {
        // 0 never comes into THE FORMAT and can stand nowhere in a directive.
        private static final int END = 0;

        private final byte[] row = new byte[MOST_FORMAT_LETTERS];
        private int size = 0;

        static int octetsBeforeZero(long w) {
            for (int i = 0; i < 8; i++) {
                if (octet(w, i) == 0) {
                    return i;
                }
            }
            return 8;
        }

        private static int octet(long w, int i) {
            return (int) (w >>> (56 - 8 * i)) & 255;
        }

        static boolean isForeign(int letter) {
            return letter < 32 || letter > 126;
        }

        void add(long w, int octets) {
            for (int i = 0; i < octets && size < row.length; i++) {
                row[size] = (byte) octet(w, i);
                size++;
            }
        }

        int letterAt(int at) {
            return at >= 0 && at < size ? row[at] & 255 : END;
        }

        int placeOfForeignLetter() {
            for (int at = 0; at < size; at++) {
                if (isForeign(letterAt(at))) {
                    return at;
                }
            }
            return NONE;
        }
    }

    /** One DIRECTIVE as it is written, later with what its * have taken. */
    private static final class Directive {
        private static final String KINDS = "diuoxXceEfFgGaA%";
        private static final int MOST_DIGITS = 3;

        private boolean left;
        private boolean plus;
        private boolean blank;
        private boolean hash;
        private boolean zero;
        private int width;
        private boolean widthIsTaken;
        private int precision;
        private boolean precisionIsTaken;
        /** The directive's letter, a small one; great tells if it was written as a great one. */
        private int kind;
        private boolean great;
        /** Where the reading stands; at its end: at the directive's letter, or at the WRONG one. */
        private int at;

        /** Whether the directive whose % stands at the place percent is not WRONG. */
        boolean read(Format format, int percent) {
            forget();
            at = percent + 1;
            readFlags(format);
            return readWidth(format) && readPrecision(format) && readKind(format);
        }

        private void forget() {
            left = false;
            plus = false;
            blank = false;
            hash = false;
            zero = false;
            width = 0;
            widthIsTaken = false;
            precision = NONE;
            precisionIsTaken = false;
            kind = '%';
            great = false;
        }

        private void readFlags(Format format) {
            for (; at < format.size; at++) {
                switch (format.letterAt(at)) {
                    case '-':
                        left = true;
                        break;
                    case '+':
                        plus = true;
                        break;
                    case ' ':
                        blank = true;
                        break;
                    case '#':
                        hash = true;
                        break;
                    case '0':
                        zero = true;
                        break;
                    default:
                        return;
                }
            }
        }

        private boolean readWidth(Format format) {
            widthIsTaken = readIf(format, '*');
            if (widthIsTaken) {
                return true;
            }
            width = readDigits(format);
            return width <= MOST_WRITTEN;
        }

        private boolean readPrecision(Format format) {
            if (!readIf(format, '.')) {
                return true;
            }
            precisionIsTaken = readIf(format, '*');
            if (precisionIsTaken) {
                return true;
            }
            precision = readDigits(format);
            return precision <= MOST_WRITTEN;
        }

        private boolean readIf(Format format, int letter) {
            if (format.letterAt(at) != letter) {
                return false;
            }
            at++;
            return true;
        }

        /** The number of up to three digits, 0 without any; the reading goes back to the first one if it is too large. */
        private int readDigits(Format format) {
            int first = at;
            int number = 0;
            for (int i = 0; i < MOST_DIGITS && isDigit(format.letterAt(at)); i++) {
                number = 10 * number + format.letterAt(at) - '0';
                at++;
            }
            if (number > MOST_WRITTEN) {
                at = first;
            }
            return number;
        }

        private static boolean isDigit(int letter) {
            return letter >= '0' && letter <= '9';
        }

        private boolean readKind(Format format) {
            char letter = (char) format.letterAt(at);
            if (KINDS.indexOf(letter) < 0) {
                return false;
            }
            great = letter >= 'A' && letter <= 'Z';
            kind = great ? letter - 'A' + 'a' : letter;
            return true;
        }

        void useTakenWidth(int value) {
            if (value < 0) {
                left = true;
            }
            width = value < 0 ? -value : value;
        }

        void useTakenPrecision(int value) {
            precision = value < 0 ? NONE : value;
        }
    }

    /** What one directive puts out, before it is filled up to WIDTH. */
    private static final class Piece {
        private static final String DIGITS = "0123456789abcdef";
        private static final int MOST_DIGITS = 22;
        // The longest is of f: a sign, 309 digits, the point, 200 digits.
        private static final int ROOM = 520;

        private final byte[] row = new byte[ROOM];
        private int size = 0;
        /** Where zeros may fill it up, NONE if only blanks may. */
        private int zeroPlace = NONE;

        void becomeEmpty() {
            size = 0;
            zeroPlace = NONE;
        }

        void letZerosComeHere() {
            zeroPlace = size;
        }

        int letterAt(int i) {
            return i >= 0 && i < size ? row[i] : ' ';
        }

        void put(int letter) {
            if (size < row.length) {
                row[size] = (byte) letter;
                size++;
            }
        }

        void putWord(String word) {
            for (int i = 0; i < word.length(); i++) {
                put(word.charAt(i));
            }
        }

        void putSign(boolean negative, Directive directive) {
            if (negative) {
                put('-');
            } else if (directive.plus) {
                put('+');
            } else if (directive.blank) {
                put(' ');
            }
        }

        void putDigit(int digit) {
            put(DIGITS.charAt(digit & 15));
        }

        /** The lowest digits of a number without sign, so many, zeros in front if it has fewer. */
        void putWhole(long unsigned, int base, int digits) {
            int first = size;
            for (int i = 0; i < digits; i++) {
                put('0');
            }
            long rest = unsigned;
            for (int i = size - 1; i >= first; i--) {
                long before = withoutLastDigit(rest, base);
                row[i] = (byte) DIGITS.charAt((int) (rest - base * before) & 15);
                rest = before;
            }
        }

        /** How many digits a number without sign needs: none of 0. */
        static int digitsOf(long unsigned, int base) {
            long rest = unsigned;
            for (int digits = 0; digits < MOST_DIGITS; digits++) {
                if (rest == 0) {
                    return digits;
                }
                rest = withoutLastDigit(rest, base);
            }
            return MOST_DIGITS;
        }

        private static long withoutLastDigit(long unsigned, int base) {
            if (base == 8) {
                return unsigned >>> 3;
            }
            if (base == 16) {
                return unsigned >>> 4;
            }
            // Halved first, so that the highest bit is not taken for a sign.
            return (unsigned >>> 1) / 5;
        }

        void becomeGreat() {
            for (int i = 0; i < size; i++) {
                if (row[i] >= 'a' && row[i] <= 'z') {
                    row[i] = (byte) (row[i] - 'a' + 'A');
                }
            }
        }
    }

    /** Writes what a directive makes of its argument into a piece. */
    private static final class Writer {
        private static final int FRACTION_BITS = 52;
        private static final long HIDDEN_BIT = 1L << FRACTION_BITS;
        private static final int ALL_EXPONENT_BITS = 2047;
        private static final int EXPONENT_OF_ONE = 1023;
        private static final int HEXADECIMAL_DIGITS = 13;
        private static final int USUAL_PRECISION = 6;

        private final Piece piece = new Piece();
        private final Decimal decimal = new Decimal();

        void write(long value, Directive directive) {
            piece.becomeEmpty();
            switch (directive.kind) {
                case '%':
                    piece.put('%');
                    break;
                case 'c':
                    writeLetter(value);
                    break;
                case 'd':
                case 'i':
                    writeSigned(value, directive);
                    break;
                case 'u':
                    writeUnsigned(value, 10, directive);
                    break;
                case 'o':
                    writeUnsigned(value, 8, directive);
                    break;
                case 'x':
                    writeUnsigned(value, 16, directive);
                    break;
                default:
                    writeFloating(value, directive);
                    break;
            }
            if (directive.great) {
                piece.becomeGreat();
            }
        }

        private void writeLetter(long v) {
            int letter = (int) (v & 127);
            piece.put(Format.isForeign(letter) ? '?' : letter);
        }

        private void writeSigned(long v, Directive directive) {
            piece.putSign(v < 0, directive);
            // The lowest number is its own opposite: without sign these bits are its distance from 0.
            writeDigits(v < 0 ? -v : v, 10, directive);
        }

        private void writeUnsigned(long v, int base, Directive directive) {
            if (base == 16 && directive.hash && v != 0) {
                piece.putWord("0x");
            }
            writeDigits(v, base, directive);
        }

        private void writeDigits(long unsigned, int base, Directive directive) {
            if (directive.precision == NONE) {
                piece.letZerosComeHere();
            }
            int needed = Piece.digitsOf(unsigned, base);
            int digits = Math.max(needed, directive.precision == NONE ? 1 : directive.precision);
            // With no more digits than needed the first one is not 0, or there is none.
            if (base == 8 && directive.hash && digits == needed) {
                digits++;
            }
            piece.putWhole(unsigned, base, digits);
        }

        private void writeFloating(long bits, Directive directive) {
            int exponentBits = (int) (bits >>> FRACTION_BITS) & ALL_EXPONENT_BITS;
            long fraction = bits & (HIDDEN_BIT - 1);
            piece.putSign(bits < 0, directive);
            if (exponentBits == ALL_EXPONENT_BITS) {
                piece.putWord(fraction == 0 ? "inf" : "nan");
                return;
            }
            long significand = exponentBits == 0 ? fraction : fraction | HIDDEN_BIT;
            int exponent = Math.max(exponentBits, 1) - EXPONENT_OF_ONE;
            if (directive.kind == 'a') {
                writeHexadecimal(significand, exponent, directive);
            } else {
                decimal.become(significand, exponent - FRACTION_BITS);
                writeDecimal(directive);
            }
        }

        private void writeDecimal(Directive directive) {
            int precision = precisionOf(directive);
            int behind = precision;
            boolean fixed = directive.kind == 'f';
            if (fixed) {
                decimal.round(decimal.point + precision);
            } else if (directive.kind == 'e') {
                decimal.round(precision + 1);
            } else {
                // Rounded to so many digits, f and e differ in nothing but the point.
                decimal.round(precision);
                fixed = decimal.point - 1 >= -4 && decimal.point - 1 < precision;
                behind = precision - (fixed ? decimal.point : 1);
                if (!directive.hash) {
                    behind = Math.min(behind, decimal.neededFrom(fixed ? decimal.point : 1));
                }
            }
            piece.letZerosComeHere();
            if (fixed) {
                putDigits(decimal.point, behind, directive.hash);
            } else {
                putDigits(1, behind, directive.hash);
                piece.put('e');
                putExponent(decimal.point - 1, true);
            }
        }

        private static int precisionOf(Directive directive) {
            if (directive.precision == NONE) {
                return USUAL_PRECISION;
            }
            return directive.kind == 'g' ? Math.max(directive.precision, 1) : directive.precision;
        }

        /** The digits before the place point, one at least, the point, and so many behind it. */
        private void putDigits(int point, int behind, boolean hash) {
            for (int i = Math.min(0, point - 1); i < point; i++) {
                piece.put('0' + decimal.digitAt(i));
            }
            putPoint(behind, hash);
            for (int i = 0; i < behind; i++) {
                piece.put('0' + decimal.digitAt(point + i));
            }
        }

        private void putPoint(int behind, boolean hash) {
            if (behind > 0 || hash) {
                piece.put('.');
            }
        }

        private void putExponent(int exponent, boolean twoDigitsAtLeast) {
            int distance = exponent < 0 ? -exponent : exponent;
            piece.put(exponent < 0 ? '-' : '+');
            if (distance >= 1000) {
                piece.put('0' + distance / 1000);
            }
            if (distance >= 100) {
                piece.put('0' + distance / 100 % 10);
            }
            if (distance >= 10 || twoDigitsAtLeast) {
                piece.put('0' + distance / 10 % 10);
            }
            piece.put('0' + distance % 10);
        }

        private void writeHexadecimal(long significand, int exponent, Directive directive) {
            int behind = directive.precision == NONE ? hexadecimalDigitsOf(significand) : directive.precision;
            long rounded = roundHexadecimal(significand, behind);
            piece.putWord("0x");
            piece.letZerosComeHere();
            piece.putDigit((int) (rounded >>> FRACTION_BITS));
            putPoint(behind, directive.hash);
            for (int i = 1; i <= behind; i++) {
                piece.putDigit(i <= HEXADECIMAL_DIGITS ? (int) (rounded >>> (FRACTION_BITS - 4 * i)) & 15 : 0);
            }
            piece.put('p');
            putExponent(significand == 0 ? 0 : exponent, false);
        }

        /** How many of the 13 digits stay without the zeros at the end. */
        private static int hexadecimalDigitsOf(long significand) {
            for (int digits = HEXADECIMAL_DIGITS; digits > 0; digits--) {
                if ((significand >>> (FRACTION_BITS - 4 * digits) & 15) != 0) {
                    return digits;
                }
            }
            return 0;
        }

        private static long roundHexadecimal(long significand, int digits) {
            if (digits >= HEXADECIMAL_DIGITS) {
                return significand;
            }
            int lost = 4 * (HEXADECIMAL_DIGITS - digits);
            long half = 1L << (lost - 1);
            long rest = significand & ((1L << lost) - 1);
            long kept = significand >>> lost;
            if (rest > half || rest == half && (kept & 1) == 1) {
                kept++;
            }
            return kept << lost;
        }
    }

    /** A number without sign, with all its decimal digits, until it is rounded. */
    private static final class Decimal {
        private static final long LIMB = 1000000000L;
        private static final int LIMB_DIGITS = 9;
        // No 64-bit floating-point number has more than 767 decimal digits.
        private static final int MOST_LIMBS = 86;
        // Both keep what a limb carries below one limb.
        private static final int MOST_TWOS = 29;
        private static final int MOST_FIVES = 12;
        private static final long[] FIVES = {
            1L, 5L, 25L, 125L, 625L, 3125L, 15625L, 78125L, 390625L, 1953125L, 9765625L, 48828125L, 244140625L
        };

        /** The digits as one whole number, nine in each limb, the lowest first. */
        private final long[] limbs = new long[MOST_LIMBS];
        private int limbCount = 0;
        /** The digits, the first one not 0; 0 has none. */
        private final byte[] digits = new byte[MOST_LIMBS * LIMB_DIGITS];
        private int digitCount = 0;
        /** How many digits stand before the point; below 0: so many zeros between it and them. */
        private int point = 1;

        /** Becomes significand times 2 to the power of exponent. */
        void become(long significand, int exponent) {
            if (significand == 0) {
                becomeZero();
                return;
            }
            limbs[0] = significand % LIMB;
            limbs[1] = significand / LIMB;
            limbCount = limbs[1] == 0 ? 1 : 2;
            for (int left = exponent; left > 0; left -= MOST_TWOS) {
                multiply(1L << Math.min(left, MOST_TWOS));
            }
            // Halving is 5 times as much, with the point one digit further to the left.
            for (int left = -exponent; left > 0; left -= MOST_FIVES) {
                multiply(FIVES[Math.min(left, MOST_FIVES)]);
            }
            spell();
            point = digitCount + Math.min(exponent, 0);
        }

        /** One digit before the point, so that the exponent of 0 is 0. */
        private void becomeZero() {
            digitCount = 0;
            point = 1;
        }

        private void multiply(long factor) {
            long carry = 0;
            for (int i = 0; i < limbCount; i++) {
                long product = limbs[i] * factor + carry;
                carry = product / LIMB;
                limbs[i] = product - carry * LIMB;
            }
            if (carry != 0 && limbCount < limbs.length) {
                limbs[limbCount] = carry;
                limbCount++;
            }
        }

        private void spell() {
            digitCount = LIMB_DIGITS * (limbCount - 1);
            long rest = limbs[limbCount - 1];
            for (int i = 0; i < LIMB_DIGITS && rest > 0; i++) {
                digitCount++;
                rest /= 10;
            }
            for (int i = 0; i < digitCount; i++) {
                if (i % LIMB_DIGITS == 0) {
                    rest = limbs[i / LIMB_DIGITS];
                }
                digits[digitCount - 1 - i] = (byte) (rest % 10);
                rest /= 10;
            }
        }

        int digitAt(int i) {
            return i >= 0 && i < digitCount ? digits[i] : 0;
        }

        /** How many digits from this place on are needed: those behind the last one that is not 0 are not. */
        int neededFrom(int place) {
            for (int i = digitCount - 1; i >= 0 && i >= place; i--) {
                if (digits[i] != 0) {
                    return i + 1 - place;
                }
            }
            return 0;
        }

        /** Rounds to so many digits; below 0: the number is less than a tenth of the last place. */
        void round(int kept) {
            if (kept >= digitCount) {
                return;
            }
            if (kept < 0) {
                becomeZero();
                return;
            }
            int next = digits[kept];
            boolean halfway = next == 5 && neededFrom(kept + 1) == 0;
            boolean up = halfway ? digitAt(kept - 1) % 2 == 1 : next >= 5;
            digitCount = kept;
            if (up) {
                addOneAtTheEnd();
            } else if (kept == 0) {
                becomeZero();
            }
        }

        private void addOneAtTheEnd() {
            for (int i = digitCount - 1; i >= 0; i--) {
                if (digits[i] < 9) {
                    digits[i]++;
                    digitCount = i + 1;
                    return;
                }
            }
            digits[0] = 1;
            digitCount = 1;
            point++;
        }
    }
}
