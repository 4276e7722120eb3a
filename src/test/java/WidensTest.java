/** Promise 3. */
public final class WidensTest {
    /** A row for each kind from which, a place for each kind to which. */
    private static final String[] TABLE = {
        "1.......",
        ".11.1111",
        "..1.1111",
        "...11111",
        "....1111",
        ".....111",
        "......11",
        ".......1",
    };

    public static void main(String[] args) {
        Due due = new Due();
        int pairs = 0;
        for (int from = 0; from <= 7; from++) {
            for (int to = 0; to <= 7; to++) {
                boolean got = new KindNumbers().widens(from, to);
                due.is("widens(" + from + ", " + to + ")", got, TABLE[from].charAt(to) == '1');
                pairs += got && from != to ? 1 : 0;
            }
        }
        due.is("the pairs that widen", pairs, 19);
        for (int no : Bits.noKinds()) {
            for (int kind = 0; kind <= 7; kind++) {
                due.is("widens(" + no + ", " + kind + ")", new KindNumbers().widens(no, kind), false);
                due.is("widens(" + kind + ", " + no + ")", new KindNumbers().widens(kind, no), false);
            }
            due.is("widens(" + no + ", " + no + ")", new KindNumbers().widens(no, no), false);
        }
        due.end();
    }
}
