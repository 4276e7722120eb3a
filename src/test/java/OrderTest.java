/** Promise 8. */
public final class OrderTest {
    private static final Calls CALLS = new Calls();

    /** That every one of these bits comes before all that follow it. */
    private static void rising(int kind, long... bits) {
        for (int i = 0; i < bits.length; i++) {
            for (int j = 0; j < bits.length; j++) {
                CALLS.order(kind, bits[i], bits[j], Integer.compare(i, j));
            }
        }
    }

    private static void valuesOfOneKind() {
        CALLS.sentence("The same for two values of one kind");
        rising(1, -128, -127, -1, 0, 1, 127);
        rising(2, -32768, -1, 0, 1, 32767);
        rising(3, 0, 1, 32767, 32768, 65535);
        rising(4, Integer.MIN_VALUE, -1, 0, 1, Integer.MAX_VALUE);
        rising(5, Long.MIN_VALUE, Long.MIN_VALUE + 1, -1, 0, 1, Long.MAX_VALUE - 1, Long.MAX_VALUE);
        rising(6, 0xFF800000L, 0xFF7FFFFFL, 0xBF800000L, 0x80800000L, 0x807FFFFFL, 0x80000001L,
            1, 0x7FFFFFL, 0x800000L, 0x3F800000L, 0x7F7FFFFFL, 0x7F800000L);
        rising(7, 0xFFF0000000000000L, 0xFFEFFFFFFFFFFFFFL, 0xBFF0000000000000L, 0x8010000000000000L,
            0x800FFFFFFFFFFFFFL, 0x8000000000000001L, 1, 0xFFFFFFFFFFFFFL, 0x10000000000000L, 0x3FF0000000000000L,
            0x7FEFFFFFFFFFFFFFL, 0x7FF0000000000000L);
    }

    private static void booleans() {
        CALLS.sentence("booleans too (false first)");
        rising(0, 0, 1);
    }

    private static void minusZero() {
        CALLS.sentence("but minus zero is before zero");
        rising(6, 0x80000001L, 0x80000000L, 0, 1);
        rising(7, Long.MIN_VALUE + 1, Long.MIN_VALUE, 0, 1);
    }

    private static void everyEdge() {
        CALLS.sentence("all pairs of edges, as Java orders them");
        for (int kind = 0; kind <= 7; kind++) {
            for (long a : Bits.edges(kind)) {
                for (long b : Bits.edges(kind)) {
                    CALLS.order(kind, a, b, Plain.order(kind, a, b));
                }
            }
        }
    }

    private static void noSuchKind() {
        CALLS.sentence("2, and failed() 1: no such kind");
        for (int kind : Bits.noKinds()) {
            CALLS.orderFails(kind, 0, 0);
            CALLS.orderFails(kind, 0, 1);
            CALLS.orderFails(kind, 1, 1);
        }
    }

    private static void bitsThatAreNone() {
        CALLS.sentence("2, and failed() 1: bits that are none");
        for (int kind = 0; kind <= 7; kind++) {
            for (long bits : Bits.none(kind)) {
                CALLS.orderFails(kind, bits, 0);
                CALLS.orderFails(kind, 0, bits);
                CALLS.orderFails(kind, bits, bits);
            }
        }
    }

    public static void main(String[] args) {
        valuesOfOneKind();
        booleans();
        minusZero();
        everyEdge();
        noSuchKind();
        bitsThatAreNone();
        CALLS.end();
    }
}
