/** Promise 7. */
public final class CompareTest {
    private static final Due DUE = new Due();

    private static void answers(int kind, long a, int other, long b, int want, int why) {
        KindNumbers numbers = new KindNumbers();
        String call = "compare(" + kind + ", " + a + ", " + other + ", " + b + ")";
        DUE.is(call, numbers.compare(kind, a, other, b), want);
        DUE.is("failed() after " + call, numbers.failed(), why);
    }

    private static void ordinary() {
        answers(1, -1, 3, 65535, -1, 0);
        answers(5, Long.MIN_VALUE, 5, Long.MAX_VALUE, -1, 0);
        answers(5, Long.MAX_VALUE, 4, -1, 1, 0);
        answers(4, 16777217, 6, Bits.of(16777216f), 0, 0);
        answers(4, 16777217, 7, Bits.of(16777216.0), 1, 0);
        answers(6, 0x80000000L, 6, 0, 0, 0);
        answers(7, 0, 6, 0x80000000L, 0, 0);
        answers(7, Bits.of(-1.0), 7, Bits.of(-2.0), 1, 0);
        answers(6, Bits.of(0.1f), 7, Bits.of(0.1), 1, 0);
        answers(7, Bits.of(Double.NEGATIVE_INFINITY), 5, Long.MIN_VALUE, -1, 0);
        answers(6, Bits.of(Float.POSITIVE_INFINITY), 7, Bits.of(Double.POSITIVE_INFINITY), 0, 0);
    }

    private static void everyEdge() {
        for (int kind = 1; kind <= 7; kind++) {
            for (int other = 1; other <= 7; other++) {
                for (long a : Bits.edges(kind)) {
                    for (long b : Bits.edges(other)) {
                        answers(kind, a, other, b, Plain.compare(kind, a, other, b), 0);
                    }
                }
            }
        }
    }

    private static void wrongCalls() {
        answers(0, 1, 0, 1, 2, 1);
        for (int kind = 1; kind <= 7; kind++) {
            answers(0, 1, kind, 1, 2, 1);
            answers(kind, 1, 0, 1, 2, 1);
            for (int no : Bits.noKinds()) {
                answers(no, 1, kind, 1, 2, 1);
                answers(kind, 1, no, 1, 2, 1);
            }
            for (long bits : Bits.none(kind)) {
                answers(kind, bits, 5, 1, 2, 1);
                answers(5, 1, kind, bits, 2, 1);
            }
        }
    }

    public static void main(String[] args) {
        ordinary();
        everyEdge();
        wrongCalls();
        DUE.end();
    }
}
