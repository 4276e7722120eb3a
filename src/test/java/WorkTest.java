/** Promise 5. */
public final class WorkTest {
    private static final Due DUE = new Due();

    private static void answers(int what, int kind, long a, int other, long b, long want, int why) {
        KindNumbers numbers = new KindNumbers();
        long got = numbers.work(what, kind, a, other, b);
        int failed = numbers.failed();
        if (got != want || failed != why) {
            String call = "work(" + what + ", " + kind + ", " + a + ", " + other + ", " + b + ")";
            DUE.is(call, got, want);
            DUE.is("failed() after " + call, failed, why);
        }
    }

    private static void ordinary() {
        answers(1, 1, 127, 1, 1, 128, 0);
        answers(2, 3, 0, 3, 1, -1, 0);
        answers(3, 4, 65536, 4, 65536, 0, 0);
        answers(3, 4, 65536, 5, 65536, 4294967296L, 0);
        answers(4, 4, -7, 4, 2, -3, 0);
        answers(5, 4, -7, 4, 2, -1, 0);
        answers(5, 4, 7, 4, -2, 1, 0);
        answers(4, 5, Long.MIN_VALUE, 4, -1, Long.MIN_VALUE, 0);
        answers(5, 5, Long.MIN_VALUE, 4, -1, 0, 0);
        answers(1, 6, Bits.of(0.1f), 6, Bits.of(0.2f), Bits.of(0.1f + 0.2f), 0);
        answers(1, 7, Bits.of(0.1), 7, Bits.of(0.2), Bits.of(0.1 + 0.2), 0);
        answers(1, 6, Bits.of(0.1f), 7, Bits.of(0.2), Bits.of(0.1f + 0.2), 0);
        answers(5, 7, Bits.of(-5.5), 4, 2, Bits.of(-1.5), 0);
        answers(5, 7, Bits.of(-4.0), 4, 2, Bits.of(-0.0), 0);
        answers(5, 7, Bits.of(1e300), 7, 1, Bits.of(1e300 % Double.MIN_VALUE), 0);
        answers(5, 6, Bits.of(3f), 6, Bits.of(Float.NEGATIVE_INFINITY), Bits.of(3f), 0);
        answers(4, 7, Bits.of(-1.0), 4, 0, Bits.of(Double.NEGATIVE_INFINITY), 0);
    }

    private static void noResult() {
        long infinity = Bits.of(Double.POSITIVE_INFINITY);
        long minusInfinity = Bits.of(Double.NEGATIVE_INFINITY);
        answers(4, 1, 5, 2, 0, 0, 8);
        answers(5, 5, 5, 3, 0, 0, 8);
        answers(1, 7, infinity, 7, minusInfinity, 0, 8);
        answers(1, 7, infinity, 7, infinity, infinity, 0);
        answers(2, 7, infinity, 7, infinity, 0, 8);
        answers(2, 7, infinity, 7, minusInfinity, infinity, 0);
        answers(3, 7, infinity, 4, 0, 0, 8);
        answers(3, 1, 0, 7, minusInfinity, 0, 8);
        answers(4, 6, 0, 6, 0x80000000L, 0, 8);
        answers(4, 7, infinity, 7, minusInfinity, 0, 8);
        answers(5, 7, infinity, 4, 3, 0, 8);
        answers(5, 6, Bits.of(3f), 4, 0, 0, 8);
    }

    private static void everyEdge() {
        for (int kind = 1; kind <= 7; kind++) {
            for (int other = 1; other <= 7; other++) {
                everyEdgeOf(kind, other);
            }
        }
    }

    private static void everyEdgeOf(int kind, int other) {
        for (long a : Bits.edges(kind)) {
            for (long b : Bits.edges(other)) {
                for (int what = 1; what <= 5; what++) {
                    long want = Plain.work(what, kind, a, other, b);
                    boolean none = want == Plain.NO_RESULT;
                    answers(what, kind, a, other, b, none ? 0 : want, none ? 8 : 0);
                }
            }
        }
    }

    private static void wrongCalls() {
        for (int what : new int[] {Integer.MIN_VALUE, -1, 0, 6, 7, 8, Integer.MAX_VALUE}) {
            answers(what, 4, 6, 4, 3, 0, 1);
            answers(what, 7, Bits.of(1.0), 4, 0, 0, 1);
        }
        for (int what = 1; what <= 5; what++) {
            answers(what, 0, 1, 0, 1, 0, 1);
            for (int kind = 1; kind <= 7; kind++) {
                answers(what, 0, 1, kind, 1, 0, 1);
                answers(what, kind, 1, 0, 1, 0, 1);
                for (int no : Bits.noKinds()) {
                    answers(what, no, 1, kind, 1, 0, 1);
                    answers(what, kind, 1, no, 1, 0, 1);
                }
                for (long bits : Bits.none(kind)) {
                    answers(what, kind, bits, 4, 1, 0, 1);
                    answers(what, 4, 1, kind, bits, 0, 1);
                    // What is wrong with the call comes before a division by 0.
                    answers(what, kind, bits, 4, 0, 0, 1);
                }
            }
        }
    }

    public static void main(String[] args) {
        ordinary();
        noResult();
        everyEdge();
        wrongCalls();
        DUE.end();
    }
}
