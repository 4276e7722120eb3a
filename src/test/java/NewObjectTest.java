/** Promise 1. */
public final class NewObjectTest {
    public static void main(String[] args) {
        Due due = new Due();
        KindNumbers first = new KindNumbers();
        due.is("failed() of a new object", first.failed(), 0);
        first.cast(0, 1, 1);
        due.is("failed() after a failure", first.failed(), 1);
        due.is("failed() of another new object", new KindNumbers().failed(), 0);
        due.is("failed() of the first object still", first.failed(), 1);
        due.end();
    }
}
