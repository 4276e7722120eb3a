/** Promise 1. */
public final class NewObjectTest {
    private static final Due DUE = new Due();

    private static void nothingHasFailed() {
        DUE.sentence("Nothing has failed.");
        DUE.is("failed() of a new object", new KindNumbers().failed(), 0);
    }

    private static void whatFailedElsewhereIsNotItsOwn() {
        DUE.sentence("Nothing has failed: in a new object, whatever failed in another");
        KindNumbers first = new KindNumbers();
        KindNumbers second = new KindNumbers();
        first.cast(0, 1, 1);
        second.work(4, 4, 1, 4, 0);
        KindNumbers third = new KindNumbers();
        DUE.is("failed() of a third object", third.failed(), 0);
        third.cast(4, 4, 1);
        DUE.is("failed() of the first object", first.failed(), 1);
        DUE.is("failed() of the second object", second.failed(), 8);
    }

    public static void main(String[] args) {
        nothingHasFailed();
        whatFailedElsewhereIsNotItsOwn();
        DUE.end();
    }
}
