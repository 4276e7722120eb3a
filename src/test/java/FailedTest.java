import java.util.List;
import java.util.function.Consumer;

/** Promise 9; long runs of calls stand in LifeTest. */
public final class FailedTest {
    private static final Due DUE = new Due();

    private record Call(String name, Consumer<KindNumbers> made) {
    }

    private static final List<Call> RIGHT = List.of(
        new Call("a cast", numbers -> numbers.cast(4, 1, 300)),
        new Call("a work", numbers -> numbers.work(1, 4, 1, 4, 2)),
        new Call("a shift", numbers -> numbers.shift(6, 4, 1, 2)),
        new Call("a compare", numbers -> numbers.compare(4, 1, 4, 2)),
        new Call("an order", numbers -> numbers.order(0, 1, 1)));

    private static final List<Call> WRONG = List.of(
        new Call("a wrong cast", numbers -> numbers.cast(0, 1, 1)),
        new Call("a wrong work", numbers -> numbers.work(6, 4, 1, 4, 2)),
        new Call("a wrong shift", numbers -> numbers.shift(5, 4, 1, 2)),
        new Call("a wrong compare", numbers -> numbers.compare(0, 1, 4, 2)),
        new Call("a wrong order", numbers -> numbers.order(0, 2, 1)));

    private static final List<Call> WITHOUT_RESULT = List.of(
        new Call("1 / 0", numbers -> numbers.work(4, 4, 1, 4, 0)),
        new Call("1 % 0", numbers -> numbers.work(5, 4, 1, 4, 0)),
        new Call("0.0 / 0", numbers -> numbers.work(4, 7, 0, 4, 0)),
        new Call("0.0 % 0", numbers -> numbers.work(5, 7, 0, 4, 0)));

    private static final List<Call> QUESTIONS = List.of(
        new Call("has, true", numbers -> numbers.has(1, 1)),
        new Call("has, false", numbers -> numbers.has(1, 128)),
        new Call("has of no kind", numbers -> numbers.has(9, 0)),
        new Call("widens, true", numbers -> numbers.widens(1, 2)),
        new Call("widens, false", numbers -> numbers.widens(6, 5)),
        new Call("widens of no kind", numbers -> numbers.widens(-1, 4)),
        new Call("failed", numbers -> numbers.failed()));

    private static void after(List<Call> firsts, List<Call> seconds, int want) {
        for (Call first : firsts) {
            for (Call second : seconds) {
                KindNumbers numbers = new KindNumbers();
                first.made.accept(numbers);
                second.made.accept(numbers);
                DUE.is("failed() after " + first.name + ", then " + second.name, numbers.failed(), want);
            }
        }
    }

    private static void whyItFailed() {
        DUE.sentence("why the latest cast(), work(), shift(), compare() or order() failed");
        after(RIGHT, WRONG, 1);
        after(WITHOUT_RESULT, WRONG, 1);
        after(WRONG, WITHOUT_RESULT, 8);
        after(RIGHT, WITHOUT_RESULT, 8);
    }

    private static void nothingFailed() {
        DUE.sentence("0, where the latest did not fail");
        after(WRONG, RIGHT, 0);
        after(WITHOUT_RESULT, RIGHT, 0);
        after(RIGHT, RIGHT, 0);
    }

    private static void otherCallsLeaveIt() {
        DUE.sentence("the latest cast(), work(), shift(), compare() or order(): the other calls are none of these");
        after(QUESTIONS, QUESTIONS, 0);
        after(RIGHT, QUESTIONS, 0);
        after(WRONG, QUESTIONS, 1);
        after(WITHOUT_RESULT, QUESTIONS, 8);
    }

    public static void main(String[] args) {
        whyItFailed();
        nothingFailed();
        otherCallsLeaveIt();
        DUE.end();
    }
}
