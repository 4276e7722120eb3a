/** "Terms", third paragraph: work on two numbers. The answers are written out, not asked of Java. */
public final class TermsOfWorkTest {
    private static final Calls CALLS = new Calls();
    private static final int PLUS = 1;
    private static final int MINUS = 2;
    private static final int TIMES = 3;
    private static final int OVER = 4;
    private static final int REST = 5;
    private static final double INFINITY = Double.POSITIVE_INFINITY;
    private static final float FLOAT_INFINITY = Float.POSITIVE_INFINITY;
    private static final long INT_LEAST = Integer.MIN_VALUE;
    private static final long INT_GREATEST = Integer.MAX_VALUE;

    private static void ints(int what, long a, long b, long want) {
        CALLS.work(what, 4, a, 4, b, want);
    }

    private static void longs(int what, long a, long b, long want) {
        CALLS.work(what, 5, a, 5, b, want);
    }

    private static void floats(int what, float a, float b, float want) {
        CALLS.work(what, 6, Bits.of(a), 6, Bits.of(b), Bits.of(want));
    }

    private static void doubles(int what, double a, double b, double want) {
        CALLS.work(what, 7, Bits.of(a), 7, Bits.of(b), Bits.of(want));
    }

    /** The same in float and in double, of numbers that both have. */
    private static void both(int what, double a, double b, double want) {
        doubles(what, a, b, want);
        floats(what, (float) a, (float) b, (float) want);
    }

    private static void noNumber(int what, double a, double b) {
        CALLS.workFails(what, 7, Bits.of(a), 7, Bits.of(b), Calls.NO_RESULT);
        CALLS.workFails(what, 6, Bits.of((float) a), 6, Bits.of((float) b), Calls.NO_RESULT);
        CALLS.workFails(what, 6, Bits.of((float) a), 7, Bits.of(b), Calls.NO_RESULT);
        CALLS.workFails(what, 7, Bits.of(a), 6, Bits.of((float) b), Calls.NO_RESULT);
    }

    private static void inTheGreaterKind() {
        CALLS.sentence("each is first cast to the greater of both kinds");
        CALLS.work(PLUS, 4, INT_GREATEST, 5, 1, 2147483648L);
        CALLS.work(PLUS, 5, 1, 4, INT_GREATEST, 2147483648L);
        CALLS.work(OVER, 4, 7, 6, Bits.of(2f), Bits.of(3.5f));
        CALLS.work(OVER, 6, Bits.of(7f), 3, 2, Bits.of(3.5f));
        CALLS.work(OVER, 1, 7, 7, Bits.of(2.0), Bits.of(3.5));
        CALLS.work(PLUS, 6, Bits.of(0.1f), 7, 0, 0x3FB99999A0000000L);
        CALLS.work(PLUS, 7, 0, 6, Bits.of(0.1f), 0x3FB99999A0000000L);
    }

    private static void theCastComesFirst() {
        CALLS.sentence("each is first cast: what the cast drops is not worked on");
        CALLS.work(MINUS, 4, 16777217, 6, Bits.of(16777216f), 0);
        CALLS.work(MINUS, 5, Long.MAX_VALUE, 6, Bits.of(0x1p63f), 0);
        CALLS.work(MINUS, 5, 9007199254740993L, 7, Bits.of(9007199254740992.0), 0);
        CALLS.work(PLUS, 4, 16777217, 6, Bits.of(1f), Bits.of(16777216f));
        CALLS.work(REST, 5, 9007199254740993L, 7, Bits.of(2.0), 0);
        CALLS.work(MINUS, 4, 16777217, 7, Bits.of(16777216.0), Bits.of(1.0));
        CALLS.work(MINUS, 5, 9007199254740993L, 4, 1, 9007199254740992L);
    }

    private static void atLeastInt() {
        CALLS.sentence("the greater of both kinds, at least int");
        CALLS.work(PLUS, 1, 127, 1, 1, 128);
        CALLS.work(MINUS, 1, -128, 1, 1, -129);
        CALLS.work(TIMES, 1, -128, 1, -128, 16384);
        CALLS.work(PLUS, 2, 32767, 2, 1, 32768);
        CALLS.work(TIMES, 2, -32768, 2, -32768, 1073741824);
        CALLS.work(MINUS, 3, 0, 3, 1, -1);
        CALLS.work(PLUS, 3, 65535, 2, 1, 65536);
        CALLS.work(TIMES, 3, 65535, 3, 65535, -131071);
        CALLS.work(OVER, 1, -128, 1, -1, 128);
        CALLS.work(OVER, 2, -32768, 1, -1, 32768);
    }

    private static void plusWraps() {
        CALLS.sentence("+ wraps (whole)");
        ints(PLUS, INT_GREATEST - 1, 1, INT_GREATEST);
        ints(PLUS, INT_GREATEST, 1, INT_LEAST);
        ints(PLUS, INT_LEAST, -1, INT_GREATEST);
        ints(PLUS, INT_LEAST, INT_LEAST, 0);
        ints(PLUS, INT_GREATEST, INT_GREATEST, -2);
        longs(PLUS, Long.MAX_VALUE, 1, Long.MIN_VALUE);
        longs(PLUS, Long.MIN_VALUE, -1, Long.MAX_VALUE);
        longs(PLUS, Long.MIN_VALUE, Long.MIN_VALUE, 0);
        longs(PLUS, INT_GREATEST, 1, 2147483648L);
    }

    private static void minusWraps() {
        CALLS.sentence("- wraps (whole)");
        ints(MINUS, INT_LEAST, 1, INT_GREATEST);
        ints(MINUS, 0, INT_LEAST, INT_LEAST);
        ints(MINUS, INT_GREATEST, -1, INT_LEAST);
        ints(MINUS, INT_LEAST, INT_GREATEST, 1);
        longs(MINUS, Long.MIN_VALUE, 1, Long.MAX_VALUE);
        longs(MINUS, 0, Long.MIN_VALUE, Long.MIN_VALUE);
        longs(MINUS, INT_LEAST, 1, -2147483649L);
    }

    private static void timesWraps() {
        CALLS.sentence("* wraps (whole)");
        ints(TIMES, 65536, 65536, 0);
        ints(TIMES, 46341, 46341, -2147479015);
        ints(TIMES, INT_GREATEST, INT_GREATEST, 1);
        ints(TIMES, INT_LEAST, -1, INT_LEAST);
        ints(TIMES, INT_LEAST, 2, 0);
        longs(TIMES, 4294967296L, 4294967296L, 0);
        longs(TIMES, Long.MAX_VALUE, Long.MAX_VALUE, 1);
        longs(TIMES, Long.MIN_VALUE, -1, Long.MIN_VALUE);
        longs(TIMES, Long.MAX_VALUE, 2, -2);
    }

    private static void nearestWithTiesToEven() {
        CALLS.sentence("+ - * are the nearest, ties to even");
        floats(PLUS, 16777216f, 1f, 16777216f);
        floats(PLUS, 16777218f, 1f, 16777220f);
        floats(PLUS, 16777216f, 1.0000001f, 16777218f);
        floats(MINUS, -16777216f, 1f, -16777216f);
        floats(MINUS, 16777216f, 0.5f, 16777216f);
        floats(MINUS, 16777215f, 0.5f, 16777214f);
        floats(TIMES, 4097f, 4097f, 16785408f);
        doubles(PLUS, 9007199254740992.0, 1, 9007199254740992.0);
        doubles(PLUS, 9007199254740994.0, 1, 9007199254740996.0);
        doubles(MINUS, -9007199254740994.0, 1, -9007199254740996.0);
        doubles(TIMES, 134217729.0, 134217729.0, 18014398777917440.0);
        doubles(PLUS, 0.1, 0.2, 0.30000000000000004);
        floats(PLUS, 0.1f, 0.2f, 0.3f);
    }

    private static void nearestIsInfinite() {
        CALLS.sentence("+ - * are the nearest: beyond the greatest");
        floats(PLUS, Float.MAX_VALUE, 0x1.fffffep102f, Float.MAX_VALUE);
        floats(PLUS, Float.MAX_VALUE, 0x1p103f, FLOAT_INFINITY);
        floats(MINUS, -Float.MAX_VALUE, 0x1p103f, -FLOAT_INFINITY);
        floats(TIMES, 0x1p64f, 0x1p64f, FLOAT_INFINITY);
        floats(TIMES, 0x1p64f, -0x1p64f, -FLOAT_INFINITY);
        doubles(PLUS, Double.MAX_VALUE, 0x1.fffffffffffffp969, Double.MAX_VALUE);
        doubles(PLUS, Double.MAX_VALUE, 0x1p970, INFINITY);
        doubles(MINUS, -Double.MAX_VALUE, 0x1p970, -INFINITY);
        doubles(TIMES, 0x1p512, 0x1p512, INFINITY);
        doubles(TIMES, -0x1p512, 0x1p512, -INFINITY);
    }

    private static void nearestIsSmall() {
        CALLS.sentence("+ - * are the nearest: below the least");
        floats(TIMES, Float.MIN_VALUE, 0.5f, 0f);
        floats(TIMES, Float.MIN_VALUE, -0.5f, -0f);
        floats(TIMES, Float.MIN_VALUE, 0.75f, Float.MIN_VALUE);
        floats(TIMES, 3 * Float.MIN_VALUE, 0.5f, 2 * Float.MIN_VALUE);
        floats(TIMES, Float.MIN_NORMAL, 0.99999994f, Float.MIN_NORMAL);
        floats(MINUS, Float.MIN_NORMAL, Float.MIN_VALUE, 0x0.fffffep-126f);
        doubles(TIMES, Double.MIN_VALUE, 0.5, 0.0);
        doubles(TIMES, -Double.MIN_VALUE, 0.5, -0.0);
        doubles(TIMES, Double.MIN_VALUE, 0.75, Double.MIN_VALUE);
        doubles(TIMES, 3 * Double.MIN_VALUE, 0.5, 2 * Double.MIN_VALUE);
        doubles(MINUS, Double.MIN_NORMAL, Double.MIN_VALUE, 0x0.fffffffffffffp-1022);
    }

    private static void signsOfZero() {
        CALLS.sentence("+ - * are the nearest: the zeros");
        both(PLUS, 0.0, -0.0, 0.0);
        both(PLUS, -0.0, -0.0, -0.0);
        both(PLUS, 1.5, -1.5, 0.0);
        both(MINUS, 0.0, 0.0, 0.0);
        both(MINUS, -0.0, 0.0, -0.0);
        both(MINUS, -1.5, -1.5, 0.0);
        both(TIMES, -1.0, 0.0, -0.0);
        both(TIMES, -0.0, -1.0, 0.0);
    }

    private static void cutTowardsZero() {
        CALLS.sentence("/ and % of whole numbers cut towards 0");
        for (int kind = 4; kind <= 5; kind++) {
            CALLS.work(OVER, kind, 7, kind, 2, 3);
            CALLS.work(OVER, kind, -7, kind, 2, -3);
            CALLS.work(OVER, kind, 7, kind, -2, -3);
            CALLS.work(OVER, kind, -7, kind, -2, 3);
            CALLS.work(OVER, kind, 1, kind, 2, 0);
            CALLS.work(OVER, kind, -1, kind, 2, 0);
            CALLS.work(REST, kind, 7, kind, 2, 1);
            CALLS.work(REST, kind, -7, kind, 2, -1);
            CALLS.work(REST, kind, 7, kind, -2, 1);
            CALLS.work(REST, kind, -7, kind, -2, -1);
            CALLS.work(REST, kind, -6, kind, 2, 0);
            CALLS.work(REST, kind, 1, kind, -2, 1);
        }
        ints(REST, INT_GREATEST, INT_LEAST, INT_GREATEST);
        ints(OVER, INT_LEAST, 2, -1073741824);
        longs(REST, Long.MAX_VALUE, Long.MIN_VALUE, Long.MAX_VALUE);
        longs(OVER, Long.MIN_VALUE, 10, -922337203685477580L);
        longs(REST, Long.MIN_VALUE, 10, -8);
    }

    private static void leastByMinusOne() {
        CALLS.sentence("the least number by -1 wraps, its rest is 0");
        ints(OVER, INT_LEAST, -1, INT_LEAST);
        ints(REST, INT_LEAST, -1, 0);
        longs(OVER, Long.MIN_VALUE, -1, Long.MIN_VALUE);
        longs(REST, Long.MIN_VALUE, -1, 0);
        CALLS.work(OVER, 5, Long.MIN_VALUE, 1, -1, Long.MIN_VALUE);
        CALLS.work(REST, 5, Long.MIN_VALUE, 2, -1, 0);
        // In a wider kind it is not the least.
        CALLS.work(OVER, 4, INT_LEAST, 5, -1, 2147483648L);
        CALLS.work(OVER, 4, INT_LEAST, 7, Bits.of(-1.0), Bits.of(2147483648.0));
        ints(OVER, INT_LEAST + 1, -1, INT_GREATEST);
        longs(OVER, Long.MIN_VALUE + 1, -1, Long.MAX_VALUE);
    }

    private static void wholeByZero() {
        CALLS.sentence("/ and % of whole numbers: by 0 they fail");
        for (int kind = 1; kind <= 5; kind++) {
            for (int other = 1; other <= 5; other++) {
                for (long a = 0; a <= 5; a += 5) {
                    CALLS.workFails(OVER, kind, a, other, 0, Calls.NO_RESULT);
                    CALLS.workFails(REST, kind, a, other, 0, Calls.NO_RESULT);
                    CALLS.work(PLUS, kind, a, other, 0, a);
                    CALLS.work(MINUS, kind, a, other, 0, a);
                    CALLS.work(TIMES, kind, a, other, 0, 0);
                }
                CALLS.work(OVER, kind, 0, other, 1, 0);
                CALLS.work(REST, kind, 0, other, 1, 0);
            }
        }
        CALLS.workFails(OVER, 4, INT_LEAST, 4, 0, Calls.NO_RESULT);
        CALLS.workFails(REST, 5, Long.MIN_VALUE, 5, 0, Calls.NO_RESULT);
        // Only the low bits of this long are 0.
        CALLS.work(OVER, 4, 5, 5, 1L << 32, 0);
        CALLS.work(REST, 4, 5, 5, 1L << 32, 5);
    }

    private static void overIsTheLanguages() {
        CALLS.sentence("/ of float and double is the language's");
        both(OVER, 7.0, 2.0, 3.5);
        both(OVER, -7.0, 2.0, -3.5);
        floats(OVER, 1f, 3f, 0x1.555556p-2f);
        doubles(OVER, 1, 3, 0x1.5555555555555p-2);
        both(OVER, 1.0, 0.0, INFINITY);
        both(OVER, -1.0, 0.0, -INFINITY);
        both(OVER, 1.0, -0.0, -INFINITY);
        both(OVER, INFINITY, 0.0, INFINITY);
        both(OVER, INFINITY, -2.0, -INFINITY);
        both(OVER, 0.0, -5.0, -0.0);
        both(OVER, 5.0, -INFINITY, -0.0);
        both(OVER, 0.0, INFINITY, 0.0);
        floats(OVER, Float.MAX_VALUE, 0.5f, FLOAT_INFINITY);
        floats(OVER, Float.MIN_VALUE, 2f, 0f);
        floats(OVER, -3 * Float.MIN_VALUE, 2f, -2 * Float.MIN_VALUE);
        doubles(OVER, Double.MAX_VALUE, 0.5, INFINITY);
        doubles(OVER, -Double.MIN_VALUE, 2, -0.0);
        CALLS.work(OVER, 4, 1, 6, 0x80000000L, Bits.of(-FLOAT_INFINITY));
        CALLS.work(OVER, 7, Bits.of(1.0), 4, 0, Bits.of(INFINITY));
    }

    private static void restIsTheLanguages() {
        CALLS.sentence("% of float and double is the language's");
        both(REST, 5.5, 2.0, 1.5);
        both(REST, -5.5, 2.0, -1.5);
        both(REST, 5.5, -2.0, 1.5);
        both(REST, -5.5, -2.0, -1.5);
        both(REST, 4.0, 2.0, 0.0);
        both(REST, -4.0, 2.0, -0.0);
        both(REST, 0.0, -3.0, 0.0);
        both(REST, -0.0, 3.0, -0.0);
        both(REST, 3.0, INFINITY, 3.0);
        both(REST, -3.0, -INFINITY, -3.0);
        both(REST, 0.0, -INFINITY, 0.0);
        both(REST, -0.0, INFINITY, -0.0);
        both(REST, 1.5, 3.0, 1.5);
        // A rest is exact however far apart the two are: 2 to the 100th by 3 is 1, to the 101st 2.
        both(REST, 0x1p100, 3.0, 1.0);
        both(REST, -0x1p101, 3.0, -2.0);
        doubles(REST, 0x1p1023, 3, 2);
        doubles(REST, Double.MAX_VALUE, Double.MIN_VALUE, 0.0);
        doubles(REST, 0x1p1023, 3 * Double.MIN_VALUE, 2 * Double.MIN_VALUE);
        floats(REST, Float.MAX_VALUE, Float.MIN_VALUE, 0f);
        floats(REST, 0x1p127f, 3 * Float.MIN_VALUE, Float.MIN_VALUE);
        floats(REST, Float.MIN_NORMAL, 5 * Float.MIN_VALUE, 3 * Float.MIN_VALUE);
        doubles(REST, 1, 0.1, 0.09999999999999995);
        floats(REST, 1f, 0.1f, 0.09999999f);
    }

    private static void infinityIsANumber() {
        CALLS.sentence("where the result is no number they fail: an infinite result is one");
        both(PLUS, INFINITY, INFINITY, INFINITY);
        both(PLUS, -INFINITY, -INFINITY, -INFINITY);
        both(PLUS, INFINITY, -1.0, INFINITY);
        both(MINUS, INFINITY, -INFINITY, INFINITY);
        both(MINUS, -INFINITY, INFINITY, -INFINITY);
        both(MINUS, 1.0, INFINITY, -INFINITY);
        both(TIMES, INFINITY, -INFINITY, -INFINITY);
        both(TIMES, -INFINITY, -0.5, INFINITY);
    }

    private static void noNumberOfPlusAndMinus() {
        CALLS.sentence("where the result is no number they fail: + and -");
        noNumber(PLUS, INFINITY, -INFINITY);
        noNumber(PLUS, -INFINITY, INFINITY);
        noNumber(MINUS, INFINITY, INFINITY);
        noNumber(MINUS, -INFINITY, -INFINITY);
    }

    private static void noNumberOfTimes() {
        CALLS.sentence("where the result is no number they fail: *");
        for (double zero : new double[] {0.0, -0.0}) {
            for (double infinite : new double[] {INFINITY, -INFINITY}) {
                noNumber(TIMES, zero, infinite);
                noNumber(TIMES, infinite, zero);
            }
        }
        CALLS.workFails(TIMES, 5, 0, 6, Bits.of(FLOAT_INFINITY), Calls.NO_RESULT);
        CALLS.workFails(TIMES, 7, Bits.of(INFINITY), 3, 0, Calls.NO_RESULT);
    }

    private static void noNumberOfOver() {
        CALLS.sentence("where the result is no number they fail: /");
        for (int signs = 0; signs <= 3; signs++) {
            double left = signs / 2 == 0 ? 1 : -1;
            double right = signs % 2 == 0 ? 1 : -1;
            noNumber(OVER, left * 0.0, right * 0.0);
            noNumber(OVER, left * INFINITY, right * INFINITY);
        }
        CALLS.workFails(OVER, 4, 0, 6, 0x80000000L, Calls.NO_RESULT);
        CALLS.workFails(OVER, 7, 0, 5, 0, Calls.NO_RESULT);
    }

    private static void noNumberOfRest() {
        CALLS.sentence("where the result is no number they fail: %");
        double[] any = {0.0, -0.0, 1.0, -3.5, Float.MAX_VALUE, INFINITY, -INFINITY};
        for (double number : any) {
            noNumber(REST, number, 0.0);
            noNumber(REST, number, -0.0);
            noNumber(REST, INFINITY, number);
            noNumber(REST, -INFINITY, number);
        }
        CALLS.workFails(REST, 6, Bits.of(3f), 4, 0, Calls.NO_RESULT);
        CALLS.workFails(REST, 6, Bits.of(FLOAT_INFINITY), 1, 2, Calls.NO_RESULT);
        CALLS.workFails(REST, 5, Long.MIN_VALUE, 7, Long.MIN_VALUE, Calls.NO_RESULT);
    }

    public static void main(String[] args) {
        inTheGreaterKind();
        theCastComesFirst();
        atLeastInt();
        plusWraps();
        minusWraps();
        timesWraps();
        nearestWithTiesToEven();
        nearestIsInfinite();
        nearestIsSmall();
        signsOfZero();
        cutTowardsZero();
        leastByMinusOne();
        wholeByZero();
        overIsTheLanguages();
        restIsTheLanguages();
        infinityIsANumber();
        noNumberOfPlusAndMinus();
        noNumberOfTimes();
        noNumberOfOver();
        noNumberOfRest();
        CALLS.end();
    }
}
