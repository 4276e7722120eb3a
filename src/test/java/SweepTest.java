/** Promises 4, 5, 7 and 8 over many bits that no one chose, against what Java itself answers. */
public final class SweepTest {
    private static final Calls CALLS = new Calls();
    private static final int ROUNDS = 400_000;

    private static long state = 20261116;

    /** The same numbers in every run: the test may not pass today and fail tomorrow. */
    private static long next() {
        state += 0x9E3779B97F4A7C15L;
        long mixed = (state ^ state >>> 30) * 0xBF58476D1CE4E5B9L;
        mixed = (mixed ^ mixed >>> 27) * 0x94D049BB133111EBL;
        return mixed ^ mixed >>> 31;
    }

    private static long bitsOf(int kind) {
        switch (kind) {
            case 6:
                return floatBits();
            case 7:
                return doubleBits();
            default:
                return Plain.cast(5, kind, next() >> (next() & 63));
        }
    }

    /** Half of them near 1, so that two of them have something to do with each other. */
    private static long floatBits() {
        long near = (0x3F800000L + (next() >> 36)) ^ (next() & 1L << 31);
        long bits = (next() & 1) == 0 ? next() & 0xFFFFFFFFL : near;
        return Float.isNaN(Bits.asFloat(bits)) ? bits & 0x807FFFFFL : bits;
    }

    private static long doubleBits() {
        long near = (0x3FF0000000000000L + (next() >> 6)) ^ (next() & 1L << 63);
        long bits = (next() & 1) == 0 ? next() : near;
        return Double.isNaN(Bits.asDouble(bits)) ? bits & 0x800FFFFFFFFFFFFFL : bits;
    }

    private static void holdAgainstJava() {
        int kind = 1 + (int) Long.remainderUnsigned(next(), 7);
        int other = 1 + (int) Long.remainderUnsigned(next(), 7);
        long a = bitsOf(kind);
        long b = bitsOf(other);
        CALLS.cast(kind, other, a, Plain.cast(kind, other, a));
        for (int what = 1; what <= 5; what++) {
            CALLS.workAsPlain(what, kind, a, other, b);
        }
        CALLS.compare(kind, a, other, b, Plain.compare(kind, a, other, b));
        long c = bitsOf(kind);
        CALLS.order(kind, a, c, Plain.order(kind, a, c));
    }

    public static void main(String[] args) {
        CALLS.sentence("A CAST is as the language does it; work, comparisons and order too");
        for (int i = 0; i < ROUNDS; i++) {
            holdAgainstJava();
        }
        CALLS.end();
    }
}
