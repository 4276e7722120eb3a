/** Promise 7. */
public final class CompareTest {
    private static final Calls CALLS = new Calls();

    /** That a is less than b, and so b greater than a. */
    private static void less(int kind, long a, int other, long b) {
        CALLS.compare(kind, a, other, b, -1);
        CALLS.compare(other, b, kind, a, 1);
    }

    private static void equal(int kind, long a, int other, long b) {
        CALLS.compare(kind, a, other, b, 0);
        CALLS.compare(other, b, kind, a, 0);
    }

    private static void lessEqualGreater() {
        CALLS.sentence("-1, 0, 1 as a is less than, equal to, greater than b");
        for (int kind = 1; kind <= 5; kind++) {
            less(kind, 1, kind, 2);
            equal(kind, 2, kind, 2);
        }
        less(4, Integer.MIN_VALUE, 4, Integer.MAX_VALUE);
        less(5, Long.MIN_VALUE, 5, Long.MAX_VALUE);
        less(5, Long.MIN_VALUE, 5, Long.MIN_VALUE + 1);
        less(1, -1, 3, 65535);
        less(2, -1, 3, 0);
        equal(3, 32767, 2, 32767);
        less(6, Bits.of(-2f), 6, Bits.of(-1f));
        less(7, Bits.of(-2.0), 7, Bits.of(-1.0));
        less(7, Bits.of(-1.0), 7, Bits.of(1.0));
        less(7, 0, 7, 1);
        less(7, Long.MIN_VALUE + 1, 7, Long.MIN_VALUE);
        less(6, 0x80000001L, 6, 0);
    }

    private static void infinities() {
        CALLS.sentence("-1, 0, 1: the infinities lie beyond all numbers, and each is equal to itself");
        long infinite = Bits.of(Double.POSITIVE_INFINITY);
        long floatInfinite = Bits.of(Float.POSITIVE_INFINITY);
        equal(7, infinite, 7, infinite);
        equal(6, floatInfinite, 6, floatInfinite);
        equal(6, floatInfinite, 7, infinite);
        less(7, infinite | Long.MIN_VALUE, 7, infinite);
        less(7, Bits.of(Double.MAX_VALUE), 7, infinite);
        less(7, infinite | Long.MIN_VALUE, 7, Bits.of(-Double.MAX_VALUE));
        less(6, Bits.of(Float.MAX_VALUE), 6, floatInfinite);
        less(5, Long.MAX_VALUE, 6, floatInfinite);
        less(7, infinite | Long.MIN_VALUE, 5, Long.MIN_VALUE);
        less(7, Bits.of(Double.MAX_VALUE), 6, floatInfinite);
    }

    private static void bothZeros() {
        CALLS.sentence("equal to (both zeros are)");
        equal(6, 0x80000000L, 6, 0);
        equal(6, 0x80000000L, 6, 0x80000000L);
        equal(7, Long.MIN_VALUE, 7, 0);
        equal(7, Long.MIN_VALUE, 7, Long.MIN_VALUE);
        equal(6, 0x80000000L, 7, 0);
        equal(6, 0, 7, Long.MIN_VALUE);
        for (int kind = 1; kind <= 5; kind++) {
            equal(kind, 0, 6, 0x80000000L);
            equal(kind, 0, 7, Long.MIN_VALUE);
        }
    }

    private static void inTheKindOfWork() {
        CALLS.sentence("in the kind in which is worked");
        equal(4, 16777217, 6, Bits.of(16777216f));
        less(6, Bits.of(16777216f), 4, 16777218);
        less(7, Bits.of(16777216.0), 4, 16777217);
        equal(4, 2147483647, 6, Bits.of(2147483648f));
        less(4, 2147483647, 7, Bits.of(2147483648.0));
        equal(5, 9007199254740993L, 7, Bits.of(9007199254740992.0));
        less(7, Bits.of(9007199254740992.0), 5, 9007199254740995L);
        less(5, 9007199254740992L, 5, 9007199254740993L);
        equal(5, Long.MAX_VALUE, 7, Bits.of(0x1p63));
        equal(5, Long.MAX_VALUE, 6, Bits.of(0x1p63f));
        less(7, Bits.of(0.1), 6, Bits.of(0.1f));
        less(4, -1, 5, 4294967295L);
    }

    private static void everyEdge() {
        CALLS.sentence("all pairs of edges, as Java compares them");
        for (int kind = 1; kind <= 7; kind++) {
            for (int other = 1; other <= 7; other++) {
                for (long a : Bits.edges(kind)) {
                    for (long b : Bits.edges(other)) {
                        CALLS.compare(kind, a, other, b, Plain.compare(kind, a, other, b));
                    }
                }
            }
        }
    }

    private static void bitsThatAreNone() {
        CALLS.sentence("2, and failed() 1, as work(): bits that are none");
        for (int kind = 1; kind <= 7; kind++) {
            for (long bits : Bits.none(kind)) {
                for (int other = 1; other <= 7; other++) {
                    CALLS.compareFails(kind, bits, other, 1);
                    CALLS.compareFails(other, 1, kind, bits);
                }
                CALLS.compareFails(kind, bits, kind, bits);
            }
        }
    }

    private static void kindsThatAreNoNumber() {
        CALLS.sentence("2, and failed() 1, as work(): a kind that is no number");
        CALLS.compareFails(0, 0, 0, 1);
        CALLS.compareFails(0, 1, 0, 1);
        for (int kind = 1; kind <= 7; kind++) {
            CALLS.compareFails(0, 1, kind, 1);
            CALLS.compareFails(kind, 1, 0, 1);
        }
        for (int no : Bits.noKinds()) {
            CALLS.compareFails(no, 1, no, 1);
            for (int kind = 0; kind <= 7; kind++) {
                CALLS.compareFails(no, 1, kind, 1);
                CALLS.compareFails(kind, 1, no, 1);
            }
        }
    }

    public static void main(String[] args) {
        lessEqualGreater();
        infinities();
        bothZeros();
        inTheKindOfWork();
        everyEdge();
        bitsThatAreNone();
        kindsThatAreNoNumber();
        CALLS.end();
    }
}
