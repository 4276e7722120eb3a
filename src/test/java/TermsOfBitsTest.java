/** "Terms", first paragraph: the kinds, the bits of each and their limits. */
public final class TermsOfBitsTest {
    private static final Calls CALLS = new Calls();

    /** The least and the greatest are bits of the kind, and what lies next to them is none. */
    private static void limits(int kind, long least, long greatest) {
        CALLS.has(kind, least - 1, false);
        CALLS.has(kind, least, true);
        CALLS.has(kind, 0, true);
        CALLS.has(kind, greatest, true);
        CALLS.has(kind, greatest + 1, false);
        // A number is not looked at by its low bits alone.
        CALLS.has(kind, least + (1L << 32), false);
        CALLS.has(kind, greatest - (1L << 32), false);
        CALLS.has(kind, Long.MIN_VALUE, false);
        CALLS.has(kind, Long.MAX_VALUE, false);
    }

    private static void kinds() {
        CALLS.sentence("KINDS: 0 boolean, 1 byte, 2 short, 3 char, 4 int, 5 long, 6 float, 7 double");
        for (int kind = 0; kind <= 7; kind++) {
            CALLS.has(kind, 0, true);
            CALLS.has(kind, 1, true);
        }
        CALLS.has(-1, 0, false);
        CALLS.has(8, 0, false);
    }

    private static void booleans() {
        CALLS.sentence("BITS of a boolean 0 or 1");
        limits(0, 0, 1);
    }

    private static void bytes() {
        CALLS.sentence("BITS of a byte the number");
        limits(1, -128, 127);
        CALLS.has(1, 255, false);
    }

    private static void shorts() {
        CALLS.sentence("BITS of a short the number");
        limits(2, -32768, 32767);
        CALLS.has(2, 65535, false);
    }

    private static void chars() {
        CALLS.sentence("BITS of a char 0 to 65535");
        limits(3, 0, 65535);
        CALLS.has(3, 32768, true);
    }

    private static void ints() {
        CALLS.sentence("BITS of an int the number");
        limits(4, -2147483648L, 2147483647L);
        CALLS.has(4, 4294967295L, false);
    }

    private static void longs() {
        CALLS.sentence("BITS of a long the number");
        CALLS.has(5, Long.MIN_VALUE, true);
        CALLS.has(5, -1, true);
        CALLS.has(5, 0, true);
        CALLS.has(5, Long.MAX_VALUE, true);
    }

    private static void floats() {
        CALLS.sentence("BITS of a float its 32 bits without sign");
        CALLS.has(6, 0, true);
        CALLS.has(6, 0x7F7FFFFFL, true);
        CALLS.has(6, 0x80000000L, true);
        CALLS.has(6, 0xFF7FFFFFL, true);
        // The same 32 bits with the sign drawn out over the long.
        CALLS.has(6, 0xFFFFFFFF80000000L, false);
        CALLS.has(6, 0xFFFFFFFFFF7FFFFFL, false);
        CALLS.has(6, 0xFFFFFFFFFF800000L, false);
        CALLS.has(6, -1, false);
        CALLS.has(6, 1L << 32, false);
        CALLS.has(6, 1L << 63, false);
        CALLS.has(6, Bits.of(1.0), false);
        CALLS.cast(7, 6, Bits.of(-1.0), 0xBF800000L);
        CALLS.work(2, 6, 0, 6, 0x3F800000L, 0xBF800000L);
    }

    private static void doubles() {
        CALLS.sentence("BITS of a double its 64 bits");
        CALLS.has(7, 0, true);
        CALLS.has(7, 0x7FEFFFFFFFFFFFFFL, true);
        CALLS.has(7, Long.MIN_VALUE, true);
        CALLS.has(7, 0xFFEFFFFFFFFFFFFFL, true);
        CALLS.cast(6, 7, 0xBF800000L, 0xBFF0000000000000L);
    }

    private static void infinitiesAreBits() {
        CALLS.sentence("bits of a float and of a double: the infinities are no not-a-number");
        CALLS.has(6, 0x7F800000L, true);
        CALLS.has(6, 0xFF800000L, true);
        CALLS.has(7, 0x7FF0000000000000L, true);
        CALLS.has(7, 0xFFF0000000000000L, true);
    }

    private static void notANumber() {
        CALLS.sentence("No bits are those of a not-a-number.");
        long[] floats = {0x7F800001L, 0x7FBFFFFFL, 0x7FC00000L, 0x7FFFFFFFL,
            0xFF800001L, 0xFFBFFFFFL, 0xFFC00000L, 0xFFFFFFFFL};
        long[] doubles = {0x7FF0000000000001L, 0x7FF00000FFFFFFFFL, 0x7FF8000000000000L, 0x7FFFFFFFFFFFFFFFL,
            0xFFF0000000000001L, 0xFFF00000FFFFFFFFL, 0xFFF8000000000000L, 0xFFFFFFFFFFFFFFFFL};
        for (long bits : floats) {
            refusedEverywhere(6, bits);
        }
        for (long bits : doubles) {
            refusedEverywhere(7, bits);
        }
    }

    private static void refusedEverywhere(int kind, long bits) {
        CALLS.has(kind, bits, false);
        CALLS.castFails(kind, kind, bits);
        CALLS.castFails(kind, 13 - kind, bits);
        CALLS.castFails(kind, 4, bits);
        CALLS.workFails(1, kind, bits, 4, 1, Calls.WRONG_CALL);
        CALLS.workFails(5, 4, 1, kind, bits, Calls.WRONG_CALL);
        CALLS.compareFails(kind, bits, kind, bits);
        CALLS.orderFails(kind, bits, bits);
    }

    private static void booleansStayAlone() {
        CALLS.sentence("A boolean has no other kind to go to, and none comes to it.");
        for (int kind = 1; kind <= 7; kind++) {
            CALLS.widens(0, kind, false);
            CALLS.widens(kind, 0, false);
            for (long bits = 0; bits <= 1; bits++) {
                CALLS.castFails(0, kind, bits);
                CALLS.castFails(kind, 0, bits);
            }
        }
    }

    public static void main(String[] args) {
        kinds();
        booleans();
        bytes();
        shorts();
        chars();
        ints();
        longs();
        floats();
        doubles();
        infinitiesAreBits();
        notANumber();
        booleansStayAlone();
        CALLS.end();
    }
}
