/**
 * What the Java language does with its plain values, told by their bits.
 *
 * <p>The bits of a float or double are taken apart and put together here by
 * arithmetic, because the library's own functions for that are not at hand.
 * No double or float in this class is ever a not-a-number: what would answer
 * one is found on the bits beforehand.
 */
public final class KindNumbers {
    private static final int BOOLEAN = 0;
    private static final int BYTE = 1;
    private static final int SHORT = 2;
    private static final int CHAR = 3;
    private static final int INT = 4;
    private static final int LONG = 5;
    private static final int FLOAT = 6;
    private static final int DOUBLE = 7;

    private static final int PLUS = 1;
    private static final int MINUS = 2;
    private static final int TIMES = 3;
    private static final int OVER = 4;
    private static final int REST = 5;
    private static final int LEFT = 6;
    private static final int RIGHT_WITH_SIGN = 7;
    private static final int RIGHT_WITH_ZERO = 8;

    private static final int NOTHING_FAILED = 0;
    private static final int WRONG_CALL = 1;
    private static final int NO_RESULT = 8;

    private static final int NOT_COMPARED = 2;

    /** A rest is below 2 to the 53rd, so ten places more still fit into a long. */
    private static final int REST_PLACES = 10;

    private int failure;

    public KindNumbers() {
        failure = NOTHING_FAILED;
    }

    public boolean has(int kind, long bits) {
        return isValue(kind, bits);
    }

    public boolean widens(int from, int to) {
        if (!isKind(from) || !isKind(to)) {
            return false;
        }
        // The kinds stand in the order of widening, but for char, to which nothing widens.
        return from == to || from != BOOLEAN && from < to && to != CHAR;
    }

    public long cast(int from, int to, long bits) {
        boolean goes = from == to || isNumberKind(from) && isNumberKind(to);
        if (!goes || !isValue(from, bits)) {
            failure = WRONG_CALL;
            return 0;
        }
        failure = NOTHING_FAILED;
        return castBits(from, to, bits);
    }

    public long work(int what, int kind, long a, int other, long b) {
        if (what < PLUS || what > REST || !isNumber(kind, a) || !isNumber(other, b)) {
            failure = WRONG_CALL;
            return 0;
        }
        int in = kindOfWork(kind, other);
        long x = castBits(kind, in, a);
        long y = castBits(other, in, b);
        if (hasNoResult(what, in, x, y)) {
            failure = NO_RESULT;
            return 0;
        }
        failure = NOTHING_FAILED;
        return in <= LONG ? narrowed(in, wholeResult(what, x, y)) : floatingResult(what, in, x, y);
    }

    public long shift(int what, int kind, long a, long n) {
        boolean whole = kind >= BYTE && kind <= LONG;
        if (what < LEFT || what > RIGHT_WITH_ZERO || !whole || !isValue(kind, a)) {
            failure = WRONG_CALL;
            return 0;
        }
        failure = NOTHING_FAILED;
        return kind == LONG ? shiftedLong(what, a, (int) (n & 63)) : shiftedInt(what, (int) a, (int) (n & 31));
    }

    public int compare(int kind, long a, int other, long b) {
        if (!isNumber(kind, a) || !isNumber(other, b)) {
            failure = WRONG_CALL;
            return NOT_COMPARED;
        }
        failure = NOTHING_FAILED;
        int in = kindOfWork(kind, other);
        long x = withOneZero(in, castBits(kind, in, a));
        long y = withOneZero(in, castBits(other, in, b));
        return compared(rank(in, x), rank(in, y));
    }

    public int order(int kind, long a, long b) {
        if (!isValue(kind, a) || !isValue(kind, b)) {
            failure = WRONG_CALL;
            return NOT_COMPARED;
        }
        failure = NOTHING_FAILED;
        return compared(rank(kind, a), rank(kind, b));
    }

    public int failed() {
        return failure;
    }

    // Kinds and their values.

    private static boolean isKind(int kind) {
        return kind >= BOOLEAN && kind <= DOUBLE;
    }

    private static boolean isNumberKind(int kind) {
        return isKind(kind) && kind != BOOLEAN;
    }

    private static boolean isNumber(int kind, long bits) {
        return isNumberKind(kind) && isValue(kind, bits);
    }

    private static boolean isValue(int kind, long bits) {
        switch (kind) {
            case BOOLEAN:
                return bits == 0 || bits == 1;
            case BYTE:
            case SHORT:
            case CHAR:
            case INT:
            case LONG:
                return narrowed(kind, bits) == bits;
            case FLOAT:
                return bits >>> 32 == 0 && sizeBits(kind, bits) <= infinityBits(kind);
            case DOUBLE:
                return sizeBits(kind, bits) <= infinityBits(kind);
            default:
                return false;
        }
    }

    private static int kindOfWork(int kind, int other) {
        return Math.max(INT, Math.max(kind, other));
    }

    // Casts.

    private static long castBits(int from, int to, long bits) {
        if (from == to) {
            return bits;
        }
        if (to == DOUBLE) {
            return floatingBits(DOUBLE, doubleOf(from, bits));
        }
        if (to == FLOAT) {
            return floatingBits(FLOAT, floatOf(from, bits));
        }
        if (from <= LONG) {
            return narrowed(to, bits);
        }
        double number = doubleOf(from, bits);
        return to == LONG ? (long) number : narrowed(to, (int) number);
    }

    private static long narrowed(int kind, long whole) {
        switch (kind) {
            case BYTE:
                return (byte) whole;
            case SHORT:
                return (short) whole;
            case CHAR:
                return (char) whole;
            case INT:
                return (int) whole;
            default:
                return whole;
        }
    }

    private static double doubleOf(int kind, long bits) {
        if (kind <= LONG) {
            return (double) bits;
        }
        double size = sizeOf(kind, sizeBits(kind, bits));
        return isNegative(kind, bits) ? -1.0 * size : size;
    }

    private static float floatOf(int kind, long bits) {
        // A long that went by way of double would be rounded twice.
        return kind <= LONG ? (float) bits : (float) doubleOf(kind, bits);
    }

    // Arithmetic.

    private static boolean hasNoResult(int what, int kind, long x, long y) {
        if (kind <= LONG) {
            return y == 0 && (what == OVER || what == REST);
        }
        boolean xInfinite = sizeBits(kind, x) == infinityBits(kind);
        boolean yInfinite = sizeBits(kind, y) == infinityBits(kind);
        boolean xZero = sizeBits(kind, x) == 0;
        boolean yZero = sizeBits(kind, y) == 0;
        switch (what) {
            case PLUS:
                return xInfinite && yInfinite && x != y;
            case MINUS:
                return xInfinite && yInfinite && x == y;
            case TIMES:
                return xInfinite && yZero || xZero && yInfinite;
            case OVER:
                return xInfinite && yInfinite || xZero && yZero;
            default:
                return xInfinite || yZero;
        }
    }

    private static long wholeResult(int what, long x, long y) {
        switch (what) {
            case PLUS:
                return x + y;
            case MINUS:
                return x - y;
            case TIMES:
                return x * y;
            case OVER:
                return y == 0 ? 0 : x / y;
            default:
                return y == 0 ? 0 : x % y;
        }
    }

    private static long floatingResult(int what, int kind, long x, long y) {
        if (what == REST) {
            return floatingRest(kind, x, y);
        }
        if (kind == FLOAT) {
            return floatingBits(FLOAT, floatResult(what, floatOf(FLOAT, x), floatOf(FLOAT, y)));
        }
        return floatingBits(DOUBLE, doubleResult(what, doubleOf(DOUBLE, x), doubleOf(DOUBLE, y)));
    }

    private static float floatResult(int what, float x, float y) {
        switch (what) {
            case PLUS:
                return x + y;
            case MINUS:
                return x - y;
            case TIMES:
                return x * y;
            default:
                return x / y;
        }
    }

    private static double doubleResult(int what, double x, double y) {
        switch (what) {
            case PLUS:
                return x + y;
            case MINUS:
                return x - y;
            case TIMES:
                return x * y;
            default:
                return x / y;
        }
    }

    /** The rest of a finite x by a y that is not zero; it is exact, and bears the sign of x. */
    private static long floatingRest(int kind, long x, long y) {
        long dividend = sizeBits(kind, x);
        long divisor = sizeBits(kind, y);
        // This leaves aside an infinite y, and every y whose unit is greater than that of x.
        if (dividend < divisor) {
            return x;
        }
        long modulus = significand(kind, divisor);
        if (modulus == 0) {
            return 0;
        }
        long rest = significand(kind, dividend) % modulus;
        int places = power(kind, dividend) - power(kind, divisor);
        while (places > 0) {
            int step = Math.min(places, REST_PLACES);
            rest = (rest << step) % modulus;
            places -= step;
        }
        long size = sizeBitsOf(kind, scaled((double) rest, power(kind, divisor)));
        return isNegative(kind, x) ? size | signBit(kind) : size;
    }

    // Shifts.

    private static int shiftedInt(int what, int a, int places) {
        switch (what) {
            case LEFT:
                return a << places;
            case RIGHT_WITH_SIGN:
                return a >> places;
            default:
                return a >>> places;
        }
    }

    private static long shiftedLong(int what, long a, int places) {
        switch (what) {
            case LEFT:
                return a << places;
            case RIGHT_WITH_SIGN:
                return a >> places;
            default:
                return a >>> places;
        }
    }

    // Comparisons.

    private static int compared(long x, long y) {
        if (x == y) {
            return 0;
        }
        return x < y ? -1 : 1;
    }

    /** A number that stands to those of other bits of the kind as the values do, minus zero before zero. */
    private static long rank(int kind, long bits) {
        if (kind <= LONG) {
            return bits;
        }
        long size = sizeBits(kind, bits);
        return isNegative(kind, bits) ? -1 - size : size;
    }

    private static long withOneZero(int kind, long bits) {
        return kind > LONG && sizeBits(kind, bits) == 0 ? 0 : bits;
    }

    // The make of floats and doubles: a sign, and a size that is a significand times a power of two.

    private static int fractionWidth(int kind) {
        return kind == FLOAT ? 23 : 52;
    }

    private static int infiniteExponent(int kind) {
        return kind == FLOAT ? 255 : 2047;
    }

    private static long signBit(int kind) {
        return kind == FLOAT ? 1L << 31 : 1L << 63;
    }

    private static boolean isNegative(int kind, long bits) {
        return (bits & signBit(kind)) != 0;
    }

    private static long sizeBits(int kind, long bits) {
        return bits & ~signBit(kind);
    }

    private static long infinityBits(int kind) {
        return (long) infiniteExponent(kind) << fractionWidth(kind);
    }

    private static double infinity() {
        return 0x1p1023 * 2.0;
    }

    private static long significand(int kind, long sizeBits) {
        long hiddenBit = 1L << fractionWidth(kind);
        long fraction = sizeBits & (hiddenBit - 1);
        return sizeBits < hiddenBit ? fraction : fraction + hiddenBit;
    }

    private static int power(int kind, long sizeBits) {
        int width = fractionWidth(kind);
        // The sizes without a hidden bit have the same unit as the least ones with it.
        int exponent = Math.max(1, (int) (sizeBits >> width));
        return exponent - infiniteExponent(kind) / 2 - width;
    }

    private static double sizeOf(int kind, long sizeBits) {
        if (sizeBits == infinityBits(kind)) {
            return infinity();
        }
        return scaled((double) significand(kind, sizeBits), power(kind, sizeBits));
    }

    /** The number times two to the power, which lies from -1074 to 971: beyond, a factor would be 0 or infinite. */
    private static double scaled(double number, int power) {
        double result = number;
        double factor = power < 0 ? 0.5 : 2.0;
        for (int left = Math.abs(power); left > 0; left = left / 2) {
            if (left % 2 == 1) {
                result = result * factor;
            }
            factor = factor * factor;
        }
        return result;
    }

    private static long floatingBits(int kind, double number) {
        // Minus zero is not less than zero; only what it divides tells it.
        boolean negative = number < 0.0 || number == 0.0 && 1.0 / number < 0.0;
        long size = sizeBitsOf(kind, negative ? -1.0 * number : number);
        return negative ? size | signBit(kind) : size;
    }

    /** The bits of a size that the kind has exactly. */
    private static long sizeBitsOf(int kind, double size) {
        if (size == infinity()) {
            return infinityBits(kind);
        }
        long hiddenBit = 1L << fractionWidth(kind);
        // Greater bits are those of greater sizes, so the exponent is found from its highest bit down.
        long base = 0;
        for (long step = signBit(kind) >>> 1; step >= hiddenBit; step = step >> 1) {
            if (sizeOf(kind, base + step) <= size) {
                base += step;
            }
        }
        double unit = scaled(1.0, power(kind, base));
        return base + (long) ((size - sizeOf(kind, base)) / unit);
    }
}
