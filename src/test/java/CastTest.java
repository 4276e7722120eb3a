/** Promise 4. */
public final class CastTest {
    private static final Due DUE = new Due();

    private static void goes(int from, int to, long bits, long want) {
        KindNumbers numbers = new KindNumbers();
        String call = "cast(" + from + ", " + to + ", " + bits + ")";
        DUE.is(call, numbers.cast(from, to, bits), want);
        DUE.is("failed() after " + call, numbers.failed(), 0);
    }

    private static void fails(int from, int to, long bits) {
        KindNumbers numbers = new KindNumbers();
        String call = "cast(" + from + ", " + to + ", " + bits + ")";
        DUE.is(call, numbers.cast(from, to, bits), 0);
        DUE.is("failed() after " + call, numbers.failed(), 1);
    }

    private static void ordinary() {
        goes(4, 1, 300, 44);
        goes(5, 4, 4294967297L, 1);
        goes(1, 3, -1, 65535);
        goes(3, 1, 255, -1);
        goes(4, 7, 3, Bits.of(3.0));
        goes(7, 4, Bits.of(-2.9), -2);
        goes(7, 1, Bits.of(1e10), -1);
        goes(7, 3, Bits.of(-1e10), 0);
        goes(6, 2, Bits.of(40000f), -25536);
        goes(7, 5, Bits.of(Double.NEGATIVE_INFINITY), Long.MIN_VALUE);
        goes(7, 6, Bits.of(-0.0), 0x80000000L);
        goes(7, 6, Bits.of(-1e-60), 0x80000000L);
        goes(7, 6, Bits.of(1e60), 0x7F800000L);
        goes(0, 0, 0, 0);
        goes(0, 0, 1, 1);
    }

    private static void everyEdge() {
        for (int from = 1; from <= 7; from++) {
            for (int to = 1; to <= 7; to++) {
                for (long bits : Bits.edges(from)) {
                    goes(from, to, bits, Plain.cast(from, to, bits));
                }
            }
        }
    }

    private static void wrongCalls() {
        for (int kind = 1; kind <= 7; kind++) {
            fails(0, kind, 0);
            fails(0, kind, 1);
            fails(kind, 0, 0);
            fails(kind, 0, 1);
        }
        for (int from = 0; from <= 7; from++) {
            for (long bits : Bits.none(from)) {
                for (int to = 0; to <= 7; to++) {
                    fails(from, to, bits);
                }
            }
        }
        for (int no : Bits.noKinds()) {
            fails(no, no, 0);
            for (int kind = 0; kind <= 7; kind++) {
                fails(no, kind, 1);
                fails(kind, no, 1);
            }
        }
    }

    public static void main(String[] args) {
        ordinary();
        everyEdge();
        wrongCalls();
        DUE.end();
    }
}
