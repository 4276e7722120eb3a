/** Promise 5; what + - * / % do stands in TermsOfWorkTest. */
public final class WorkTest {
    private static final Calls CALLS = new Calls();

    private static void fiveWhats() {
        CALLS.sentence("What 1 +, 2 -, 3 *, 4 /, 5 %");
        long[] sixWithFour = {10, 2, 24, 1, 2};
        double[] halves = {8, 5, 9.75, 6.5 / 1.5, 0.5};
        for (int what = 1; what <= 5; what++) {
            CALLS.work(what, 4, 6, 4, 4, sixWithFour[what - 1]);
            CALLS.work(what, 5, 6, 5, 4, sixWithFour[what - 1]);
            CALLS.work(what, 7, Bits.of(6.5), 7, Bits.of(1.5), Bits.of(halves[what - 1]));
            CALLS.work(what, 6, Bits.of(6.5f), 6, Bits.of(1.5f), Bits.of((float) halves[what - 1]));
        }
    }

    private static void bitsOfTheResult() {
        CALLS.sentence("the bits of the result, whose kind is that in which is worked");
        for (int kind = 1; kind <= 7; kind++) {
            for (int other = 1; other <= 7; other++) {
                everyEdge(kind, other);
            }
        }
    }

    private static void everyEdge(int kind, int other) {
        for (long a : Bits.edges(kind)) {
            for (long b : Bits.edges(other)) {
                for (int what = 1; what <= 5; what++) {
                    CALLS.workAsPlain(what, kind, a, other, b);
                }
            }
        }
    }

    private static void refused(int what, int kind, long a, int other, long b) {
        CALLS.workFails(what, kind, a, other, b, Calls.WRONG_CALL);
    }

    private static void anotherWhat() {
        CALLS.sentence("0, and failed() 1: another what");
        for (int what : new int[] {Integer.MIN_VALUE, -1, 0, 6, 7, 8, 257, Integer.MAX_VALUE}) {
            for (int kind = 1; kind <= 7; kind++) {
                refused(what, kind, 1, 4, 3);
                refused(what, kind, 1, kind, 1);
            }
        }
    }

    private static void bitsThatAreNone() {
        CALLS.sentence("0, and failed() 1: bits that are none");
        for (int what = 1; what <= 5; what++) {
            for (int kind = 1; kind <= 7; kind++) {
                for (long bits : Bits.none(kind)) {
                    for (int other = 1; other <= 7; other++) {
                        refused(what, kind, bits, other, 1);
                        refused(what, other, 1, kind, bits);
                    }
                    refused(what, kind, bits, kind, bits);
                }
            }
        }
    }

    private static void kindsThatAreNoNumber() {
        CALLS.sentence("0, and failed() 1: a kind that is no number");
        for (int what = 1; what <= 5; what++) {
            refused(what, 0, 1, 0, 1);
            for (int kind = 1; kind <= 7; kind++) {
                refused(what, 0, 1, kind, 1);
                refused(what, kind, 1, 0, 1);
            }
            for (int no : Bits.noKinds()) {
                refused(what, no, 1, no, 1);
                for (int kind = 0; kind <= 7; kind++) {
                    refused(what, no, 1, kind, 1);
                    refused(what, kind, 1, no, 1);
                }
            }
        }
    }

    private static void eightAsSaid() {
        CALLS.sentence("0, and failed() 8 as said");
        long infinite = Bits.of(Double.POSITIVE_INFINITY);
        CALLS.workFails(4, 1, 5, 2, 0, Calls.NO_RESULT);
        CALLS.workFails(5, 5, 5, 3, 0, Calls.NO_RESULT);
        CALLS.workFails(1, 7, infinite, 7, infinite | Long.MIN_VALUE, Calls.NO_RESULT);
        CALLS.workFails(2, 7, infinite, 7, infinite, Calls.NO_RESULT);
        CALLS.workFails(3, 7, infinite, 4, 0, Calls.NO_RESULT);
        CALLS.workFails(4, 6, 0, 6, 0x80000000L, Calls.NO_RESULT);
        CALLS.workFails(5, 6, Bits.of(3f), 4, 0, Calls.NO_RESULT);
    }

    /** What is said of 8 is said of two numbers; where there are not two, nothing is worked. */
    private static void refusedBeforeItIsWorked() {
        CALLS.sentence("0, and failed() 1, not 8, where a refused call would have no result either");
        long infinite = Bits.of(Double.POSITIVE_INFINITY);
        for (int what : new int[] {Integer.MIN_VALUE, -1, 0, 6, 8, 9, Integer.MAX_VALUE}) {
            refused(what, 4, 1, 4, 0);
            refused(what, 5, 0, 3, 0);
            refused(what, 7, 0, 7, 0);
            refused(what, 7, infinite, 7, infinite);
            refused(what, 7, infinite, 7, infinite | Long.MIN_VALUE);
            refused(what, 7, infinite, 7, 0);
        }
        for (int what = 4; what <= 5; what++) {
            refused(what, 0, 1, 4, 0);
            refused(what, 4, 1, 0, 0);
            refused(what, 0, 0, 0, 0);
            refused(what, 8, 1, 4, 0);
            refused(what, 4, 1, -1, 0);
            refused(what, 1, 128, 1, 0);
            refused(what, 4, 1L << 32, 4, 0);
            // The low 32 bits are those of a 0.
            refused(what, 4, 1, 4, 1L << 32);
            refused(what, 6, 0, 6, 1L << 32);
        }
    }

    private static void notANumberIsRefused() {
        CALLS.sentence("0, and failed() 1, not 8, of a not-a-number: its bits are none");
        long floatNone = 0x7FC00000L;
        long doubleNone = 0x7FF8000000000000L;
        for (int what = 1; what <= 5; what++) {
            for (long b : new long[] {0, 0x80000000L, 0x7F800000L, 0xFF800000L, floatNone}) {
                refused(what, 6, floatNone, 6, b);
                refused(what, 6, b, 6, floatNone);
            }
            for (long b : new long[] {0, Long.MIN_VALUE, 0x7FF0000000000000L, 0xFFF0000000000000L, doubleNone}) {
                refused(what, 7, doubleNone, 7, b);
                refused(what, 7, b, 7, doubleNone);
            }
            refused(what, 7, doubleNone, 4, 0);
            refused(what, 4, 0, 6, floatNone);
        }
    }

    public static void main(String[] args) {
        fiveWhats();
        bitsOfTheResult();
        anotherWhat();
        bitsThatAreNone();
        kindsThatAreNoNumber();
        eightAsSaid();
        refusedBeforeItIsWorked();
        notANumberIsRefused();
        CALLS.end();
    }
}
