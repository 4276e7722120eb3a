/** Every call that answers or refuses, over kinds, whats and bits that do and do not go together. */
public final class EveryArgumentTest {
    private static final Calls CALLS = new Calls();
    private static final int[] KINDS = {Integer.MIN_VALUE, -1, 0, 1, 2, 3, 4, 5, 6, 7, 8, Integer.MAX_VALUE};
    private static final long[] BITS = {Long.MIN_VALUE, Long.MIN_VALUE + 1, 0xFFF0000000000000L, -2147483649L,
        -2147483648L, -32769, -32768, -129, -128, -1, 0, 1, 2, 127, 128, 32767, 32768, 65535, 65536, 0x3F800000L,
        0x7F800000L, 0x7F800001L, 0x80000000L, 0xFF800000L, 0xFF800001L, 0xFFFFFFFFL, 1L << 32, 0x3FF0000000000000L,
        0x7FF0000000000000L, 0x7FF0000000000001L, Long.MAX_VALUE};

    private static boolean isNumber(int kind, long bits) {
        return kind != 0 && Plain.has(kind, bits);
    }

    private static void ofOneValue(int kind, long bits) {
        CALLS.has(kind, bits, Plain.has(kind, bits));
        for (int to : KINDS) {
            boolean goes = kind == to ? Plain.has(kind, bits) : isNumber(kind, bits) && to >= 1 && to <= 7;
            if (goes) {
                CALLS.cast(kind, to, bits, Plain.cast(kind, to, bits));
            } else {
                CALLS.castFails(kind, to, bits);
            }
        }
        for (int what = 5; what <= 9; what++) {
            if (what >= 6 && what <= 8 && kind <= 5 && isNumber(kind, bits)) {
                CALLS.shift(what, kind, bits, 9, Plain.shift(what, kind, bits, 9));
            } else {
                CALLS.shiftFails(what, kind, bits, 9);
            }
        }
    }

    private static void ofTwoValuesOfOneKind(int kind, long a, long b) {
        if (Plain.has(kind, a) && Plain.has(kind, b)) {
            CALLS.order(kind, a, b, Plain.order(kind, a, b));
        } else {
            CALLS.orderFails(kind, a, b);
        }
    }

    private static void ofTwoNumbers(int kind, long a, int other, long b) {
        boolean numbers = isNumber(kind, a) && isNumber(other, b);
        if (numbers) {
            CALLS.compare(kind, a, other, b, Plain.compare(kind, a, other, b));
        } else {
            CALLS.compareFails(kind, a, other, b);
        }
        for (int what = 0; what <= 6; what++) {
            if (!numbers || what == 0 || what == 6) {
                CALLS.workFails(what, kind, a, other, b, Calls.WRONG_CALL);
            } else {
                CALLS.workAsPlain(what, kind, a, other, b);
            }
        }
    }

    public static void main(String[] args) {
        CALLS.sentence("every promise, for any kinds, whats and bits");
        for (int kind : KINDS) {
            for (long a : BITS) {
                ofOneValue(kind, a);
                for (long b : BITS) {
                    ofTwoValuesOfOneKind(kind, a, b);
                    for (int other : KINDS) {
                        ofTwoNumbers(kind, a, other, b);
                    }
                }
            }
        }
        CALLS.end();
    }
}
