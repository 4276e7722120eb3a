/** Promise 6. */
public final class ShiftTest {
    private static final Calls CALLS = new Calls();
    private static final int LEFT = 6;
    private static final int RIGHT = 7;
    private static final int RIGHT_WITH_ZERO = 8;

    private static void castToInt() {
        CALLS.sentence("Shifts a, cast to int if its kind is less");
        CALLS.shift(LEFT, 1, 127, 1, 254);
        CALLS.shift(LEFT, 1, 1, 31, -2147483648);
        CALLS.shift(LEFT, 2, 32767, 1, 65534);
        CALLS.shift(LEFT, 3, 65535, 16, -65536);
        CALLS.shift(RIGHT_WITH_ZERO, 1, -1, 0, -1);
        CALLS.shift(RIGHT_WITH_ZERO, 1, -1, 1, 2147483647);
        CALLS.shift(RIGHT_WITH_ZERO, 2, -32768, 16, 65535);
        CALLS.shift(RIGHT, 1, -128, 7, -1);
        CALLS.shift(RIGHT, 3, 65535, 15, 1);
    }

    private static void lowestFiveBits() {
        CALLS.sentence("by the lowest 5 bits of n");
        for (int kind = 1; kind <= 4; kind++) {
            CALLS.shift(LEFT, kind, 1, 0, 1);
            CALLS.shift(LEFT, kind, 1, 31, -2147483648);
            CALLS.shift(LEFT, kind, 1, 32, 1);
            CALLS.shift(LEFT, kind, 1, 33, 2);
            CALLS.shift(LEFT, kind, 1, 63, -2147483648);
            CALLS.shift(LEFT, kind, 1, 64, 1);
            CALLS.shift(LEFT, kind, 1, -1, -2147483648);
            CALLS.shift(LEFT, kind, 1, -31, 2);
            CALLS.shift(LEFT, kind, 1, -32, 1);
            CALLS.shift(LEFT, kind, 1, 1L << 32, 1);
            CALLS.shift(LEFT, kind, 1, (1L << 32) + 5, 32);
            CALLS.shift(LEFT, kind, 1, Long.MIN_VALUE, 1);
            CALLS.shift(LEFT, kind, 1, Long.MAX_VALUE, -2147483648);
        }
    }

    private static void lowestSixBits() {
        CALLS.sentence("(6 for long)");
        CALLS.shift(LEFT, 5, 1, 0, 1);
        CALLS.shift(LEFT, 5, 1, 31, 2147483648L);
        CALLS.shift(LEFT, 5, 1, 32, 4294967296L);
        CALLS.shift(LEFT, 5, 1, 63, Long.MIN_VALUE);
        CALLS.shift(LEFT, 5, 1, 64, 1);
        CALLS.shift(LEFT, 5, 1, 65, 2);
        CALLS.shift(LEFT, 5, 1, 96, 4294967296L);
        CALLS.shift(LEFT, 5, 1, -1, Long.MIN_VALUE);
        CALLS.shift(LEFT, 5, 1, -63, 2);
        CALLS.shift(LEFT, 5, 1, -64, 1);
        CALLS.shift(LEFT, 5, 1, 1L << 32, 1);
        CALLS.shift(LEFT, 5, 1, Long.MIN_VALUE, 1);
        CALLS.shift(LEFT, 5, 1, Long.MAX_VALUE, Long.MIN_VALUE);
    }

    private static void left() {
        CALLS.sentence("what 6 left");
        CALLS.shift(LEFT, 4, -8, 1, -16);
        CALLS.shift(LEFT, 4, 2147483647, 1, -2);
        CALLS.shift(LEFT, 4, -2147483648, 1, 0);
        CALLS.shift(LEFT, 4, 3, 31, -2147483648);
        CALLS.shift(LEFT, 5, 2147483647, 1, 4294967294L);
        CALLS.shift(LEFT, 5, Long.MAX_VALUE, 1, -2);
        CALLS.shift(LEFT, 5, Long.MIN_VALUE, 1, 0);
    }

    private static void rightWithTheSign() {
        CALLS.sentence("7 right with the sign");
        CALLS.shift(RIGHT, 4, -8, 1, -4);
        CALLS.shift(RIGHT, 4, -1, 31, -1);
        CALLS.shift(RIGHT, 4, -7, 1, -4);
        CALLS.shift(RIGHT, 4, -2147483648, 31, -1);
        CALLS.shift(RIGHT, 4, 2147483647, 30, 1);
        CALLS.shift(RIGHT, 5, -8, 1, -4);
        CALLS.shift(RIGHT, 5, Long.MIN_VALUE, 63, -1);
        CALLS.shift(RIGHT, 5, Long.MAX_VALUE, 62, 1);
    }

    private static void rightWithZero() {
        CALLS.sentence("8 right with 0");
        CALLS.shift(RIGHT_WITH_ZERO, 4, -8, 1, 2147483644);
        CALLS.shift(RIGHT_WITH_ZERO, 4, -8, 0, -8);
        CALLS.shift(RIGHT_WITH_ZERO, 4, -8, 32, -8);
        CALLS.shift(RIGHT_WITH_ZERO, 4, -1, 31, 1);
        CALLS.shift(RIGHT_WITH_ZERO, 4, -2147483648, 31, 1);
        CALLS.shift(RIGHT_WITH_ZERO, 5, -8, 1, 9223372036854775804L);
        CALLS.shift(RIGHT_WITH_ZERO, 5, -8, 64, -8);
        CALLS.shift(RIGHT_WITH_ZERO, 5, -1, 32, 4294967295L);
        CALLS.shift(RIGHT_WITH_ZERO, 5, Long.MIN_VALUE, 63, 1);
    }

    private static void everyEdge() {
        CALLS.sentence("all shifts of all edges, as Java does them");
        for (int kind = 1; kind <= 5; kind++) {
            for (long a : Bits.edges(kind)) {
                for (int what = LEFT; what <= RIGHT_WITH_ZERO; what++) {
                    for (long n = -130; n <= 130; n++) {
                        CALLS.shift(what, kind, a, n, Plain.shift(what, kind, a, n));
                    }
                }
            }
        }
    }

    private static void anotherWhat() {
        CALLS.sentence("0, and failed() 1: another what");
        for (int what : new int[] {Integer.MIN_VALUE, -1, 0, 1, 2, 3, 4, 5, 9, 262, Integer.MAX_VALUE}) {
            for (int kind = 1; kind <= 5; kind++) {
                CALLS.shiftFails(what, kind, 1, 1);
            }
        }
    }

    private static void anotherKind() {
        CALLS.sentence("0, and failed() 1: kind not 1 to 5");
        for (int what = LEFT; what <= RIGHT_WITH_ZERO; what++) {
            for (int kind : new int[] {0, 6, 7}) {
                CALLS.shiftFails(what, kind, 0, 0);
                CALLS.shiftFails(what, kind, 1, 0);
            }
            for (int kind : Bits.noKinds()) {
                CALLS.shiftFails(what, kind, 1, 0);
            }
        }
    }

    private static void bitsThatAreNone() {
        CALLS.sentence("0, and failed() 1: bits that are none");
        for (int what = LEFT; what <= RIGHT_WITH_ZERO; what++) {
            for (int kind = 1; kind <= 5; kind++) {
                for (long bits : Bits.none(kind)) {
                    CALLS.shiftFails(what, kind, bits, 0);
                }
            }
        }
    }

    public static void main(String[] args) {
        castToInt();
        lowestFiveBits();
        lowestSixBits();
        left();
        rightWithTheSign();
        rightWithZero();
        everyEdge();
        anotherWhat();
        anotherKind();
        bitsThatAreNone();
        CALLS.end();
    }
}
