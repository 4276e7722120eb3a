/** Promise 6. */
public final class ShiftTest {
    private static final Due DUE = new Due();

    private static void answers(int what, int kind, long a, long n, long want, int why) {
        KindNumbers numbers = new KindNumbers();
        String call = "shift(" + what + ", " + kind + ", " + a + ", " + n + ")";
        DUE.is(call, numbers.shift(what, kind, a, n), want);
        DUE.is("failed() after " + call, numbers.failed(), why);
    }

    private static void ordinary() {
        answers(6, 4, 1, 31, Integer.MIN_VALUE, 0);
        answers(6, 4, 1, 32, 1, 0);
        answers(6, 5, 1, 32, 4294967296L, 0);
        answers(6, 5, 1, 64, 1, 0);
        answers(6, 1, 127, 1, 254, 0);
        answers(7, 1, -128, 1, -64, 0);
        answers(8, 1, -1, 28, 15, 0);
        answers(8, 4, -8, 0, -8, 0);
        answers(8, 4, -8, 32, -8, 0);
        answers(8, 5, -1, -1, 1, 0);
        answers(6, 4, 1, 1L << 32, 1, 0);
    }

    private static long plain(int what, int kind, long a, long n) {
        if (kind == 5) {
            return what == 6 ? a << n : what == 7 ? a >> n : a >>> n;
        }
        int x = (int) a;
        return what == 6 ? x << n : what == 7 ? x >> n : x >>> n;
    }

    private static void everyEdge() {
        long[] far = {Long.MIN_VALUE, Long.MIN_VALUE + 5, -4294967295L, 4294967299L, Long.MAX_VALUE};
        for (int kind = 1; kind <= 5; kind++) {
            for (long a : Bits.edges(kind)) {
                for (int what = 6; what <= 8; what++) {
                    for (long n = -130; n <= 130; n++) {
                        answers(what, kind, a, n, plain(what, kind, a, n), 0);
                    }
                    for (long n : far) {
                        answers(what, kind, a, n, plain(what, kind, a, n), 0);
                    }
                }
            }
        }
    }

    private static void wrongCalls() {
        for (int what : new int[] {Integer.MIN_VALUE, -1, 0, 1, 5, 9, Integer.MAX_VALUE}) {
            answers(what, 4, 1, 1, 0, 1);
            answers(what, 5, 1, 1, 0, 1);
        }
        for (int what = 6; what <= 8; what++) {
            for (int kind : new int[] {0, 6, 7}) {
                answers(what, kind, 1, 0, 0, 1);
            }
            for (int kind : Bits.noKinds()) {
                answers(what, kind, 1, 0, 0, 1);
            }
            for (int kind = 1; kind <= 5; kind++) {
                for (long bits : Bits.none(kind)) {
                    answers(what, kind, bits, 0, 0, 1);
                }
            }
        }
    }

    public static void main(String[] args) {
        ordinary();
        everyEdge();
        wrongCalls();
        DUE.end();
    }
}
