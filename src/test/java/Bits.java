/** The bits of values, written short, and the values of every kind that stand at an edge. */
final class Bits {
    private Bits() {
    }

    static long of(float value) {
        return Float.floatToRawIntBits(value) & 0xFFFFFFFFL;
    }

    static long of(double value) {
        return Double.doubleToRawLongBits(value);
    }

    static float asFloat(long bits) {
        return Float.intBitsToFloat((int) bits);
    }

    static double asDouble(long bits) {
        return Double.longBitsToDouble(bits);
    }

    static long[] edges(int kind) {
        switch (kind) {
            case 0:
                return new long[] {0, 1};
            case 1:
                return new long[] {-128, -127, -2, -1, 0, 1, 2, 7, 126, 127};
            case 2:
                return new long[] {-32768, -32767, -129, -128, -1, 0, 1, 127, 128, 255, 256, 32766, 32767};
            case 3:
                return new long[] {0, 1, 127, 128, 255, 256, 32767, 32768, 40000, 65534, 65535};
            case 4:
                return new long[] {Integer.MIN_VALUE, Integer.MIN_VALUE + 1, -16777217, -65536, -32769, -129, -7, -1,
                    0, 1, 2, 3, 10, 300, 32768, 65535, 65536, 16777215, 16777216, 16777217, 16777219,
                    Integer.MAX_VALUE - 1, Integer.MAX_VALUE};
            case 5:
                return new long[] {Long.MIN_VALUE, Long.MIN_VALUE + 1, -9007199254740993L, -2147483649L, -2147483648L,
                    -7, -1, 0, 1, 2, 3, 10, 16777217, 2147483647L, 2147483648L, 4294967296L, 4294967297L,
                    9007199254740991L, 9007199254740992L, 9007199254740993L, 9007199254740995L,
                    // Rounded by way of double, the next two come to another float than rounded once.
                    (1L << 60) + (1L << 36) + 1, (1L << 60) + (3L << 36) - 1,
                    Long.MAX_VALUE - 512, Long.MAX_VALUE - 511, Long.MAX_VALUE - 1, Long.MAX_VALUE};
            case 6:
                return signed(31, new long[] {0, 1, 2, 3, 0x400000, 0x7FFFFE, 0x7FFFFF, 0x800000, 0x800001, 0xFFFFFF,
                    0x1000000, of(1e-20f), of(0.1f), of(0.5f), of(0.75f), 0x3F7FFFFF, of(1f), 0x3F800001, of(1.5f),
                    of(2f), of(3f), of(10f), of(127.5f), of(128f), of(65535.5f), of(65536f), of(16777215f),
                    of(16777216f), of(2147483520f), of(2147483648f), of(9.223371e18f), of(9.2233720e18f), of(1e30f),
                    0x7F000000, 0x7F7FFFFE, 0x7F7FFFFF, 0x7F800000});
            default:
                return signed(63, new long[] {0, 1, 2, 3, 0x8000000000000L, 0xFFFFFFFFFFFFEL, 0xFFFFFFFFFFFFFL,
                    0x10000000000000L, 0x10000000000001L, 0x1FFFFFFFFFFFFFL, 0x20000000000000L, of(1e-200),
                    // Around half of the least float, and around the least float with a hidden bit.
                    of(0x1p-150), of(0x1.0000000000001p-150), of(0x1.8p-149), of(0x1.fffffffp-127), of(0x1p-126),
                    of(0.1), of(0.5), of(0.75), 0x3FEFFFFFFFFFFFFFL, of(1), 0x3FF0000000000001L, of(1.5), of(2), of(3),
                    of(10), of(127.5), of(65535.5), of(65536), of(2147483647.5), of(2147483648.5), of(4294967297.5),
                    of(9007199254740991.0), of(9007199254740992.0), of(9.223372036854775e18),
                    of(9223372036854775808.0), of(1e30),
                    // Around the border between the greatest float and infinity.
                    of(0x1.fffffep127), of(0x1.fffffefffffffp127), of(0x1.ffffffp127), of(0x1p128), of(1e300),
                    0x7FE0000000000000L, 0x7FEFFFFFFFFFFFFFL, 0x7FF0000000000000L});
        }
    }

    private static long[] signed(int place, long[] sizes) {
        long[] all = new long[2 * sizes.length];
        for (int i = 0; i < sizes.length; i++) {
            all[2 * i] = sizes[i];
            all[2 * i + 1] = sizes[i] | 1L << place;
        }
        return all;
    }

    /** Bits that are none of the kind; a long has no such bits. */
    static long[] none(int kind) {
        switch (kind) {
            case 0:
                return new long[] {-1, 2, Long.MIN_VALUE, Long.MAX_VALUE, 1L << 32};
            case 1:
                return new long[] {-129, 128, 255, 1L << 32, Long.MIN_VALUE, Long.MAX_VALUE};
            case 2:
                return new long[] {-32769, 32768, 65535, 1L << 32, Long.MIN_VALUE, Long.MAX_VALUE};
            case 3:
                return new long[] {-1, 65536, 1L << 32, Long.MIN_VALUE, Long.MAX_VALUE};
            case 4:
                return new long[] {-2147483649L, 2147483648L, 4294967295L, 1L << 32, Long.MIN_VALUE, Long.MAX_VALUE};
            case 6:
                return new long[] {-1, -2147483648L, 0x7F800001L, 0x7FC00000L, 0x7FFFFFFFL, 0xFF800001L, 0xFFC00000L,
                    0xFFFFFFFFL, 1L << 32, (1L << 32) + 0x3F800000L, Long.MIN_VALUE, Long.MAX_VALUE};
            case 7:
                return new long[] {-1, 0x7FF0000000000001L, 0x7FF8000000000000L, Long.MAX_VALUE, 0xFFF0000000000001L,
                    0xFFF8000000000000L};
            default:
                return new long[0];
        }
    }

    static int[] noKinds() {
        return new int[] {-1, 8, 9, 256, 260, Integer.MIN_VALUE, Integer.MAX_VALUE};
    }
}
