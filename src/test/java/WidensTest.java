/** Promise 3. */
public final class WidensTest {
    private static final Calls CALLS = new Calls();

    /** A row for each kind from which, a place for each kind to which: a dot where it does not widen. */
    private static final String[] TABLE = {
        "=.......",
        ".=w.wwww",
        "..=.wwww",
        "...=wwww",
        "....=www",
        ".....=ww",
        "......=w",
        ".......=",
    };

    private static void theOtherOne() {
        CALLS.sentence("Whether a kind is the other one");
        for (int kind = 0; kind <= 7; kind++) {
            CALLS.widens(kind, kind, true);
        }
    }

    private static void widensToIt() {
        CALLS.sentence("or widens to it");
        for (int from = 0; from <= 7; from++) {
            for (int to = 0; to <= 7; to++) {
                CALLS.widens(from, to, TABLE[from].charAt(to) != '.');
            }
        }
    }

    private static void noSuchKind() {
        CALLS.sentence("false if there is no such kind");
        for (int no : Bits.noKinds()) {
            for (int kind = 0; kind <= 7; kind++) {
                CALLS.widens(no, kind, false);
                CALLS.widens(kind, no, false);
            }
            for (int other : Bits.noKinds()) {
                CALLS.widens(no, other, false);
            }
        }
    }

    public static void main(String[] args) {
        theOtherOne();
        widensToIt();
        noSuchKind();
        CALLS.end();
    }
}
