/** Promise 2; the limits of each kind stand one by one in TermsOfBitsTest. */
public final class HasTest {
    private static final Calls CALLS = new Calls();

    private static void bitsOfTheKind() {
        CALLS.sentence("Whether these are bits of a value of the kind");
        for (int kind = 0; kind <= 7; kind++) {
            for (long bits : Bits.edges(kind)) {
                CALLS.has(kind, bits, true);
            }
            for (long bits : Bits.none(kind)) {
                CALLS.has(kind, bits, false);
            }
        }
    }

    private static void everySmallNumber() {
        CALLS.sentence("Whether these are bits of a value of the kind: all numbers around the lesser kinds");
        for (long bits = -70000; bits <= 70000; bits++) {
            CALLS.has(0, bits, bits == 0 || bits == 1);
            CALLS.has(1, bits, bits >= -128 && bits <= 127);
            CALLS.has(2, bits, bits >= -32768 && bits <= 32767);
            CALLS.has(3, bits, bits >= 0 && bits <= 65535);
            CALLS.has(4, bits, true);
            CALLS.has(5, bits, true);
            CALLS.has(6, bits, bits >= 0);
        }
    }

    private static void noSuchKind() {
        CALLS.sentence("false if there is no such kind");
        for (int kind : Bits.noKinds()) {
            for (long bits = -1; bits <= 1; bits++) {
                CALLS.has(kind, bits, false);
            }
        }
    }

    public static void main(String[] args) {
        bitsOfTheKind();
        everySmallNumber();
        noSuchKind();
        CALLS.end();
    }
}
