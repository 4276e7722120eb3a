/** Promise 9. */
public final class FailedTest {
    private static final Due DUE = new Due();
    private static final String[] CALLS = {"cast", "work", "shift", "compare", "order"};

    private static void right(KindNumbers numbers, int call) {
        switch (call) {
            case 0:
                numbers.cast(4, 1, 300);
                break;
            case 1:
                numbers.work(1, 4, 1, 4, 2);
                break;
            case 2:
                numbers.shift(6, 4, 1, 2);
                break;
            case 3:
                numbers.compare(4, 1, 4, 2);
                break;
            default:
                numbers.order(0, 1, 1);
        }
    }

    private static void wrong(KindNumbers numbers, int call) {
        switch (call) {
            case 0:
                numbers.cast(0, 1, 1);
                break;
            case 1:
                numbers.work(6, 4, 1, 4, 2);
                break;
            case 2:
                numbers.shift(5, 4, 1, 2);
                break;
            case 3:
                numbers.compare(0, 1, 4, 2);
                break;
            default:
                numbers.order(0, 2, 1);
        }
    }

    private static void eachAfterEach() {
        for (int first = 0; first < CALLS.length; first++) {
            for (int second = 0; second < CALLS.length; second++) {
                KindNumbers numbers = new KindNumbers();
                wrong(numbers, first);
                DUE.is("failed() after a wrong " + CALLS[first], numbers.failed(), 1);
                right(numbers, second);
                DUE.is("failed() after a right " + CALLS[second], numbers.failed(), 0);
                numbers.work(4, 4, 1, 4, 0);
                DUE.is("failed() after a division by 0", numbers.failed(), 8);
                wrong(numbers, second);
                DUE.is("failed() after 8 and a wrong " + CALLS[second], numbers.failed(), 1);
                numbers.work(4, 4, 1, 4, 0);
                right(numbers, second);
                DUE.is("failed() after 8 and a right " + CALLS[second], numbers.failed(), 0);
            }
        }
    }

    private static void questionsLeaveIt() {
        KindNumbers numbers = new KindNumbers();
        numbers.has(9, 0);
        numbers.has(1, 128);
        numbers.widens(-1, 4);
        numbers.widens(6, 5);
        DUE.is("failed() after has() and widens() that are false", numbers.failed(), 0);
        numbers.work(5, 7, 0, 7, 0);
        numbers.has(1, 1);
        numbers.widens(1, 2);
        DUE.is("failed() after has() and widens() that are true", numbers.failed(), 8);
        DUE.is("failed() asked again", numbers.failed(), 8);
    }

    private static void aFullLife() {
        KindNumbers numbers = new KindNumbers();
        for (int call = 0; call < 256; call++) {
            boolean goes = call % 3 != 0;
            numbers.cast(goes ? 4 : 0, 7, call % 2);
            DUE.is("failed() after cast " + call, numbers.failed(), goes ? 0 : 1);
        }
    }

    public static void main(String[] args) {
        eachAfterEach();
        questionsLeaveIt();
        aFullLife();
        DUE.end();
    }
}
