/** "Terms", second paragraph: casts and widening. The answers are written out, not asked of Java. */
public final class TermsOfCastsTest {
    private static final Calls CALLS = new Calls();
    private static final double INFINITY = Double.POSITIVE_INFINITY;

    private static void wholeToFloat(long whole, float want) {
        CALLS.cast(5, 6, whole, Bits.of(want));
        if (whole == (int) whole) {
            CALLS.cast(4, 6, whole, Bits.of(want));
        }
    }

    private static void wholeToDouble(long whole, double want) {
        CALLS.cast(5, 7, whole, Bits.of(want));
    }

    private static void toFloat(double from, float want) {
        CALLS.cast(7, 6, Bits.of(from), Bits.of(want));
        CALLS.cast(7, 6, Bits.of(-from), Bits.of(-want));
    }

    private static void toWhole(int to, double from, long want) {
        CALLS.cast(7, to, Bits.of(from), want);
    }

    private static void floatToWhole(int to, float from, long want) {
        CALLS.cast(6, to, Bits.of(from), want);
    }

    private static void highBitsDrop() {
        CALLS.sentence("whole to whole drops high bits");
        CALLS.cast(4, 1, 127, 127);
        CALLS.cast(4, 1, 128, -128);
        CALLS.cast(4, 1, -129, 127);
        CALLS.cast(4, 1, 256, 0);
        CALLS.cast(3, 1, 65535, -1);
        CALLS.cast(5, 2, 32768, -32768);
        CALLS.cast(5, 2, -32769, 32767);
        CALLS.cast(3, 2, 32768, -32768);
        CALLS.cast(4, 3, 65536, 0);
        CALLS.cast(4, 3, -1, 65535);
        CALLS.cast(1, 3, -128, 65408);
        CALLS.cast(2, 3, -32768, 32768);
        CALLS.cast(5, 4, 2147483648L, -2147483648L);
        CALLS.cast(5, 4, -2147483649L, 2147483647L);
        CALLS.cast(5, 4, 1L << 32, 0);
        CALLS.cast(5, 4, Long.MIN_VALUE, 0);
        CALLS.cast(5, 4, Long.MAX_VALUE, -1);
        CALLS.cast(5, 1, Long.MAX_VALUE, -1);
    }

    private static void nothingDropsUpwards() {
        CALLS.sentence("whole to whole: a wider kind keeps the number");
        CALLS.cast(1, 5, -128, -128);
        CALLS.cast(2, 4, -32768, -32768);
        CALLS.cast(3, 4, 65535, 65535);
        CALLS.cast(3, 5, 65535, 65535);
        CALLS.cast(4, 5, -2147483648L, -2147483648L);
    }

    private static void wholeToFloatNearest() {
        CALLS.sentence("whole to float is the nearest, ties to even");
        wholeToFloat(0, 0f);
        wholeToFloat(-1, -1f);
        wholeToFloat(16777216, 16777216f);
        wholeToFloat(16777217, 16777216f);
        wholeToFloat(16777219, 16777220f);
        wholeToFloat(-16777217, -16777216f);
        wholeToFloat(-16777219, -16777220f);
        wholeToFloat(33554433, 33554432f);
        wholeToFloat(33554434, 33554432f);
        wholeToFloat(33554435, 33554436f);
        wholeToFloat(33554437, 33554436f);
        wholeToFloat(33554438, 33554440f);
        wholeToFloat(2147483583, 2147483520f);
        wholeToFloat(2147483584, 2147483648f);
        wholeToFloat(2147483647, 2147483648f);
        wholeToFloat(-2147483648, -2147483648f);
        wholeToFloat(Long.MAX_VALUE, 0x1p63f);
        wholeToFloat(Long.MIN_VALUE, -0x1p63f);
        CALLS.cast(3, 6, 65535, 0x477FFF00L);
        CALLS.cast(1, 6, -128, 0xC3000000L);
    }

    private static void longToFloatIsRoundedOnce() {
        CALLS.sentence("long to float is the nearest, not the nearest of the nearest double");
        // A little above and a little below a tie, by less than a double tells apart.
        wholeToFloat((1L << 60) + (1L << 36) + 1, 0x1.000002p60f);
        wholeToFloat((1L << 60) + (1L << 36), 0x1p60f);
        wholeToFloat((1L << 60) + (3L << 36) - 1, 0x1.000002p60f);
        wholeToFloat((1L << 60) + (3L << 36), 0x1.000004p60f);
    }

    private static void wholeToDoubleNearest() {
        CALLS.sentence("whole to double is the nearest, ties to even");
        wholeToDouble(0, 0.0);
        wholeToDouble(9007199254740991L, 9007199254740991.0);
        wholeToDouble(9007199254740992L, 9007199254740992.0);
        wholeToDouble(9007199254740993L, 9007199254740992.0);
        wholeToDouble(9007199254740995L, 9007199254740996.0);
        wholeToDouble(-9007199254740993L, -9007199254740992.0);
        wholeToDouble(-9007199254740995L, -9007199254740996.0);
        wholeToDouble(Long.MAX_VALUE - 512, 0x1.fffffffffffffp62);
        wholeToDouble(Long.MAX_VALUE - 511, 0x1p63);
        wholeToDouble(Long.MAX_VALUE, 0x1p63);
        wholeToDouble(Long.MIN_VALUE, -0x1p63);
        CALLS.cast(4, 7, 2147483647, Bits.of(2147483647.0));
        CALLS.cast(4, 7, -2147483648, Bits.of(-2147483648.0));
    }

    private static void floatToDoubleExactly() {
        CALLS.sentence("float to double exactly");
        for (long sign = 0; sign <= 1; sign++) {
            long f = sign << 31;
            long d = sign << 63;
            CALLS.cast(6, 7, f, d);
            CALLS.cast(6, 7, f | 1, d | 0x36A0000000000000L);
            CALLS.cast(6, 7, f | 3, d | 0x36B8000000000000L);
            CALLS.cast(6, 7, f | 0x7FFFFFL, d | 0x380FFFFFC0000000L);
            CALLS.cast(6, 7, f | 0x800000L, d | 0x3810000000000000L);
            CALLS.cast(6, 7, f | 0x3DCCCCCDL, d | 0x3FB99999A0000000L);
            CALLS.cast(6, 7, f | 0x7F7FFFFFL, d | 0x47EFFFFFE0000000L);
            CALLS.cast(6, 7, f | 0x7F800000L, d | 0x7FF0000000000000L);
        }
    }

    private static void doubleToFloatNearest() {
        CALLS.sentence("double to float the nearest, ties to even");
        toFloat(0.1, 0.1f);
        toFloat(0x1.000001p0, 1f);
        toFloat(0x1.0000010000001p0, 0x1.000002p0f);
        toFloat(0x1.000003p0, 0x1.000004p0f);
        toFloat(0x1.0000030000001p0, 0x1.000004p0f);
        toFloat(0x1.0000050000001p0, 0x1.000006p0f);
        toFloat(0x1.ffffffp0, 2f);
    }

    private static void doubleTooGreatForFloat() {
        CALLS.sentence("double to float the nearest: beyond the greatest float");
        toFloat(0x1.fffffep127, Float.MAX_VALUE);
        toFloat(0x1.fffffefffffffp127, Float.MAX_VALUE);
        toFloat(0x1.ffffffp127, Float.POSITIVE_INFINITY);
        toFloat(0x1p128, Float.POSITIVE_INFINITY);
        toFloat(Double.MAX_VALUE, Float.POSITIVE_INFINITY);
        toFloat(INFINITY, Float.POSITIVE_INFINITY);
    }

    private static void doubleTooSmallForFloat() {
        CALLS.sentence("double to float the nearest: below the least float, the sign staying");
        toFloat(0.0, 0f);
        toFloat(Double.MIN_VALUE, 0f);
        toFloat(0x1p-150, 0f);
        toFloat(0x1.0000000000001p-150, Float.MIN_VALUE);
        toFloat(0x1.7ffffffffffffp-149, Float.MIN_VALUE);
        toFloat(0x1.8p-149, 2 * Float.MIN_VALUE);
        toFloat(0x1.4p-148, 2 * Float.MIN_VALUE);
        toFloat(0x1.fffffcp-127, 0x1.fffffcp-127f);
        toFloat(0x1.fffffep-127, Float.MIN_NORMAL);
        toFloat(0x1p-126, Float.MIN_NORMAL);
    }

    private static void partBeforeThePoint() {
        CALLS.sentence("to long and int the part before the point");
        for (int to = 4; to <= 5; to++) {
            toWhole(to, 0.0, 0);
            toWhole(to, -0.0, 0);
            toWhole(to, 0.9999999999999999, 0);
            toWhole(to, -0.9999999999999999, 0);
            toWhole(to, Double.MIN_VALUE, 0);
            toWhole(to, 1.0, 1);
            toWhole(to, 2.5, 2);
            toWhole(to, -2.5, -2);
            toWhole(to, 3.9, 3);
            toWhole(to, -3.9, -3);
            floatToWhole(to, 0.99999994f, 0);
            floatToWhole(to, -7.75f, -7);
            floatToWhole(to, 16777215f, 16777215);
        }
        toWhole(5, 2147483648.5, 2147483648L);
        toWhole(5, -4503599627370495.5, -4503599627370495L);
    }

    private static void beyondAnInt() {
        CALLS.sentence("to int the least or greatest where it is beyond");
        toWhole(4, 2147483646.5, 2147483646);
        toWhole(4, 2147483647.0, 2147483647);
        toWhole(4, 2147483647.5, 2147483647);
        toWhole(4, 2147483648.0, 2147483647);
        toWhole(4, 4294967296.0, 2147483647);
        toWhole(4, INFINITY, 2147483647);
        toWhole(4, -2147483647.5, -2147483647);
        toWhole(4, -2147483648.0, -2147483648);
        toWhole(4, -2147483648.5, -2147483648);
        toWhole(4, -2147483649.0, -2147483648);
        toWhole(4, -4294967297.0, -2147483648);
        toWhole(4, -INFINITY, -2147483648);
        floatToWhole(4, 2147483520f, 2147483520);
        floatToWhole(4, 2147483648f, 2147483647);
        floatToWhole(4, -2147483648f, -2147483648);
        floatToWhole(4, -2147483904f, -2147483648);
        floatToWhole(4, Float.POSITIVE_INFINITY, 2147483647);
        floatToWhole(4, Float.NEGATIVE_INFINITY, -2147483648);
    }

    private static void beyondALong() {
        CALLS.sentence("to long the least or greatest where it is beyond");
        toWhole(5, 0x1.fffffffffffffp62, 9223372036854774784L);
        toWhole(5, 0x1p63, Long.MAX_VALUE);
        toWhole(5, Double.MAX_VALUE, Long.MAX_VALUE);
        toWhole(5, INFINITY, Long.MAX_VALUE);
        toWhole(5, -0x1.fffffffffffffp62, -9223372036854774784L);
        toWhole(5, -0x1p63, Long.MIN_VALUE);
        toWhole(5, -0x1.0000000000001p63, Long.MIN_VALUE);
        toWhole(5, -INFINITY, Long.MIN_VALUE);
        floatToWhole(5, 0x1.fffffep62f, 9223371487098961920L);
        floatToWhole(5, 0x1p63f, Long.MAX_VALUE);
        floatToWhole(5, -0x1p63f, Long.MIN_VALUE);
        floatToWhole(5, -0x1.000002p63f, Long.MIN_VALUE);
        floatToWhole(5, Float.POSITIVE_INFINITY, Long.MAX_VALUE);
        floatToWhole(5, Float.NEGATIVE_INFINITY, Long.MIN_VALUE);
    }

    private static void byWayOfInt() {
        CALLS.sentence("to byte, short and char by way of int");
        toWhole(1, 127.9, 127);
        toWhole(1, 128.0, -128);
        toWhole(1, -128.9, -128);
        toWhole(1, -129.0, 127);
        toWhole(2, 32767.9, 32767);
        toWhole(2, 32768.0, -32768);
        toWhole(2, -32769.0, 32767);
        toWhole(3, 65535.9, 65535);
        toWhole(3, 65536.0, 0);
        toWhole(3, -0.9, 0);
        toWhole(3, -1.0, 65535);
        floatToWhole(1, 300f, 44);
        floatToWhole(2, 40000f, -25536);
        floatToWhole(3, -2f, 65534);
        beyondAnIntNarrowed(1, -1);
        beyondAnIntNarrowed(2, -1);
        beyondAnIntNarrowed(3, 65535);
    }

    /** The low bits of the greatest int are all ones, and those of the least all zeros. */
    private static void beyondAnIntNarrowed(int to, long ones) {
        // By way of long these would come to the low bits of 2 to the 40th, or of its neighbour.
        toWhole(to, 0x1p40, ones);
        toWhole(to, 0x1p40 + 5, ones);
        toWhole(to, -0x1p40 - 5, 0);
        toWhole(to, INFINITY, ones);
        toWhole(to, -INFINITY, 0);
        floatToWhole(to, 0x1p40f, ones);
        floatToWhole(to, -0x1p40f, 0);
        floatToWhole(to, Float.POSITIVE_INFINITY, ones);
        floatToWhole(to, Float.NEGATIVE_INFINITY, 0);
    }

    private static void wideningIsACast() {
        CALLS.sentence("WIDENING is a cast of these pairs: .. (nineteen)");
        int[][] pairs = {{1, 2}, {1, 4}, {1, 5}, {1, 6}, {1, 7}, {2, 4}, {2, 5}, {2, 6}, {2, 7}, {3, 4}, {3, 5}, {3, 6},
            {3, 7}, {4, 5}, {4, 6}, {4, 7}, {5, 6}, {5, 7}, {6, 7}};
        long[] ones = {1, 1, 1, 1, 1, 1, 0x3F800000L, 0x3FF0000000000000L};
        for (int[] pair : pairs) {
            CALLS.widens(pair[0], pair[1], true);
            CALLS.widens(pair[1], pair[0], false);
            CALLS.cast(pair[0], pair[1], ones[pair[0]], ones[pair[1]]);
        }
    }

    private static void whatDoesNotWiden() {
        CALLS.sentence("WIDENING: no pair comes to char or byte, char goes not to short");
        for (int kind = 0; kind <= 7; kind++) {
            CALLS.widens(kind, 3, kind == 3);
            CALLS.widens(kind, 1, kind == 1);
        }
        CALLS.widens(3, 2, false);
        CALLS.widens(2, 3, false);
    }

    public static void main(String[] args) {
        highBitsDrop();
        nothingDropsUpwards();
        wholeToFloatNearest();
        longToFloatIsRoundedOnce();
        wholeToDoubleNearest();
        floatToDoubleExactly();
        doubleToFloatNearest();
        doubleTooGreatForFloat();
        doubleTooSmallForFloat();
        partBeforeThePoint();
        beyondAnInt();
        beyondALong();
        byWayOfInt();
        wideningIsACast();
        whatDoesNotWiden();
        CALLS.end();
    }
}
