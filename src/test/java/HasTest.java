/** Promise 2. */
public final class HasTest {
    public static void main(String[] args) {
        Due due = new Due();
        for (int kind = 0; kind <= 7; kind++) {
            for (long bits : Bits.edges(kind)) {
                due.is("has(" + kind + ", " + bits + ")", new KindNumbers().has(kind, bits), true);
            }
            for (long bits : Bits.none(kind)) {
                due.is("has(" + kind + ", " + bits + ")", new KindNumbers().has(kind, bits), false);
            }
        }
        for (int kind : Bits.noKinds()) {
            for (long bits = -1; bits <= 1; bits++) {
                due.is("has(" + kind + ", " + bits + ")", new KindNumbers().has(kind, bits), false);
            }
        }
        for (long bits = -70000; bits <= 70000; bits++) {
            KindNumbers numbers = new KindNumbers();
            due.is("has(1, " + bits + ")", numbers.has(1, bits), bits >= -128 && bits <= 127);
            due.is("has(2, " + bits + ")", numbers.has(2, bits), bits >= -32768 && bits <= 32767);
            due.is("has(3, " + bits + ")", numbers.has(3, bits), bits >= 0 && bits <= 65535);
            due.is("has(5, " + bits + ")", numbers.has(5, bits), true);
        }
        due.end();
    }
}
