/** What Java itself answers, kind by kind, with the library's own functions for the bits. */
final class Plain {
    /** What work() answers where there is no number; no edge of the sweeps comes to these bits. */
    static final long NO_RESULT = 0x7FF8DEADDEADDEADL;

    private Plain() {
    }

    static boolean has(int kind, long bits) {
        switch (kind) {
            case 0:
                return bits == 0 || bits == 1;
            case 1:
                return bits >= Byte.MIN_VALUE && bits <= Byte.MAX_VALUE;
            case 2:
                return bits >= Short.MIN_VALUE && bits <= Short.MAX_VALUE;
            case 3:
                return bits >= Character.MIN_VALUE && bits <= Character.MAX_VALUE;
            case 4:
                return bits >= Integer.MIN_VALUE && bits <= Integer.MAX_VALUE;
            case 5:
                return true;
            case 6:
                return bits >= 0 && bits < 1L << 32 && !Float.isNaN(Bits.asFloat(bits));
            case 7:
                return !Double.isNaN(Bits.asDouble(bits));
            default:
                return false;
        }
    }

    static long cast(int from, int to, long bits) {
        switch (from) {
            case 0:
                return bits;
            case 6:
                return castFloat(to, Bits.asFloat(bits));
            case 7:
                return castDouble(to, Bits.asDouble(bits));
            default:
                return castWhole(to, bits);
        }
    }

    private static long castWhole(int to, long value) {
        switch (to) {
            case 1:
                return (byte) value;
            case 2:
                return (short) value;
            case 3:
                return (char) value;
            case 4:
                return (int) value;
            case 5:
                return value;
            case 6:
                return Bits.of((float) value);
            default:
                return Bits.of((double) value);
        }
    }

    private static long castFloat(int to, float value) {
        switch (to) {
            case 1:
                return (byte) value;
            case 2:
                return (short) value;
            case 3:
                return (char) value;
            case 4:
                return (int) value;
            case 5:
                return (long) value;
            case 6:
                return Bits.of(value);
            default:
                return Bits.of((double) value);
        }
    }

    private static long castDouble(int to, double value) {
        switch (to) {
            case 1:
                return (byte) value;
            case 2:
                return (short) value;
            case 3:
                return (char) value;
            case 4:
                return (int) value;
            case 5:
                return (long) value;
            case 6:
                return Bits.of((float) value);
            default:
                return Bits.of(value);
        }
    }

    static int kindOfWork(int kind, int other) {
        return Math.max(4, Math.max(kind, other));
    }

    static long work(int what, int kind, long a, int other, long b) {
        int in = kindOfWork(kind, other);
        long x = cast(kind, in, a);
        long y = cast(other, in, b);
        switch (in) {
            case 4:
                return workInt(what, (int) x, (int) y);
            case 5:
                return workLong(what, x, y);
            case 6:
                float f = workFloat(what, Bits.asFloat(x), Bits.asFloat(y));
                return Float.isNaN(f) ? NO_RESULT : Bits.of(f);
            default:
                double d = workDouble(what, Bits.asDouble(x), Bits.asDouble(y));
                return Double.isNaN(d) ? NO_RESULT : Bits.of(d);
        }
    }

    private static long workInt(int what, int x, int y) {
        if (what >= 4 && y == 0) {
            return NO_RESULT;
        }
        return what == 1 ? x + y : what == 2 ? x - y : what == 3 ? x * y : what == 4 ? x / y : x % y;
    }

    private static long workLong(int what, long x, long y) {
        if (what >= 4 && y == 0) {
            return NO_RESULT;
        }
        return what == 1 ? x + y : what == 2 ? x - y : what == 3 ? x * y : what == 4 ? x / y : x % y;
    }

    private static float workFloat(int what, float x, float y) {
        return what == 1 ? x + y : what == 2 ? x - y : what == 3 ? x * y : what == 4 ? x / y : x % y;
    }

    private static double workDouble(int what, double x, double y) {
        return what == 1 ? x + y : what == 2 ? x - y : what == 3 ? x * y : what == 4 ? x / y : x % y;
    }

    static long shift(int what, int kind, long a, long n) {
        if (kind == 5) {
            return what == 6 ? a << n : what == 7 ? a >> n : a >>> n;
        }
        int x = (int) a;
        return what == 6 ? x << n : what == 7 ? x >> n : x >>> n;
    }

    static int compare(int kind, long a, int other, long b) {
        int in = kindOfWork(kind, other);
        long x = cast(kind, in, a);
        long y = cast(other, in, b);
        if (in <= 5) {
            return Long.compare(x, y);
        }
        double v = in == 6 ? Bits.asFloat(x) : Bits.asDouble(x);
        double w = in == 6 ? Bits.asFloat(y) : Bits.asDouble(y);
        return v < w ? -1 : v > w ? 1 : 0;
    }

    static int order(int kind, long a, long b) {
        switch (kind) {
            case 6:
                return Float.compare(Bits.asFloat(a), Bits.asFloat(b));
            case 7:
                return Double.compare(Bits.asDouble(a), Bits.asDouble(b));
            default:
                return Long.compare(a, b);
        }
    }
}
