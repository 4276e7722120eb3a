/** Promise 8. */
public final class OrderTest {
    private static final Due DUE = new Due();

    private static void answers(int kind, long a, long b, int want, int why) {
        KindNumbers numbers = new KindNumbers();
        String call = "order(" + kind + ", " + a + ", " + b + ")";
        DUE.is(call, numbers.order(kind, a, b), want);
        DUE.is("failed() after " + call, numbers.failed(), why);
    }

    private static void ordinary() {
        answers(0, 0, 1, -1, 0);
        answers(0, 1, 0, 1, 0);
        answers(0, 1, 1, 0, 0);
        answers(5, Long.MIN_VALUE, Long.MAX_VALUE, -1, 0);
        answers(6, 0x80000000L, 0, -1, 0);
        answers(6, 0, 0x80000000L, 1, 0);
        answers(6, 0x80000000L, 0x80000000L, 0, 0);
        answers(6, 0x80000001L, 0x80000000L, -1, 0);
        answers(7, Long.MIN_VALUE, 0, -1, 0);
        answers(7, Long.MIN_VALUE + 1, Long.MIN_VALUE, -1, 0);
        answers(7, Bits.of(-1.0), Bits.of(-2.0), 1, 0);
    }

    private static void everyEdge() {
        for (int kind = 0; kind <= 7; kind++) {
            for (long a : Bits.edges(kind)) {
                for (long b : Bits.edges(kind)) {
                    answers(kind, a, b, Plain.order(kind, a, b), 0);
                }
            }
        }
    }

    private static void wrongCalls() {
        for (int kind : Bits.noKinds()) {
            answers(kind, 0, 0, 2, 1);
        }
        for (int kind = 0; kind <= 7; kind++) {
            for (long bits : Bits.none(kind)) {
                answers(kind, bits, 0, 2, 1);
                answers(kind, 0, bits, 2, 1);
                answers(kind, bits, bits, 2, 1);
            }
        }
    }

    public static void main(String[] args) {
        ordinary();
        everyEdge();
        wrongCalls();
        DUE.end();
    }
}
