/** Promise 4; what each cast does stands in TermsOfCastsTest. */
public final class CastTest {
    private static final Calls CALLS = new Calls();

    private static void bitsOfTheCast() {
        CALLS.sentence("The bits of the cast");
        for (int from = 1; from <= 7; from++) {
            for (int to = 1; to <= 7; to++) {
                for (long bits : Bits.edges(from)) {
                    CALLS.cast(from, to, bits, Plain.cast(from, to, bits));
                }
            }
        }
    }

    private static void toTheSameKind() {
        CALLS.sentence("The bits of the cast: a kind to itself keeps them, booleans too");
        for (int kind = 0; kind <= 7; kind++) {
            for (long bits : Bits.edges(kind)) {
                CALLS.cast(kind, kind, bits, bits);
            }
        }
    }

    private static void bitsThatAreNone() {
        CALLS.sentence("0, and failed() is 1, if bits are none of from");
        for (int from = 0; from <= 7; from++) {
            for (long bits : Bits.none(from)) {
                for (int to = 0; to <= 7; to++) {
                    CALLS.castFails(from, to, bits);
                }
            }
        }
    }

    private static void bitsNeedNotBeOfTo() {
        CALLS.sentence("if bits are none of from: of the other kind they may be none");
        CALLS.cast(4, 1, 128, -128);
        CALLS.cast(1, 3, -1, 65535);
        CALLS.cast(5, 6, -1, 0xBF800000L);
        CALLS.cast(5, 7, 0x7FF8000000000000L, Bits.of(0x1.ffep62));
        CALLS.castFails(1, 4, 128);
        CALLS.castFails(3, 1, -1);
        CALLS.castFails(6, 5, -1);
    }

    private static void aBooleanAndANumber() {
        CALLS.sentence("0, and failed() is 1, if the kinds are not both numbers or the same: a boolean");
        for (int kind = 1; kind <= 7; kind++) {
            for (long bits = 0; bits <= 1; bits++) {
                CALLS.castFails(0, kind, bits);
                CALLS.castFails(kind, 0, bits);
            }
        }
    }

    private static void noSuchKind() {
        CALLS.sentence("0, and failed() is 1, if the kinds are not both numbers or the same: no kind");
        for (int no : Bits.noKinds()) {
            for (long bits = 0; bits <= 1; bits++) {
                CALLS.castFails(no, no, bits);
                for (int kind = 0; kind <= 7; kind++) {
                    CALLS.castFails(no, kind, bits);
                    CALLS.castFails(kind, no, bits);
                }
            }
        }
    }

    public static void main(String[] args) {
        bitsOfTheCast();
        toTheSameKind();
        bitsThatAreNone();
        bitsNeedNotBeOfTo();
        aBooleanAndANumber();
        noSuchKind();
        CALLS.end();
    }
}
