import java.util.List;
import java.util.function.ToLongFunction;

/** "What it is": through 512 calls of every kind, in many orders, each answer is as due and each object's own. */
public final class LifeTest {
    private static final Due DUE = new Due();
    private static final int CALLS_OF_A_LIFE = 512;

    /** What a row of a call that cannot fail has in the place of why it failed. */
    private static final int LEAVES_IT = -1;

    private record Row(String call, ToLongFunction<KindNumbers> made, long want, int why) {
    }

    /** Rows of all methods but failed(), which is asked between them. */
    private static final List<Row> ROWS = List.of(
        new Row("has(1, 127)", x -> x.has(1, 127) ? 1 : 0, 1, LEAVES_IT),
        new Row("has(1, 128)", x -> x.has(1, 128) ? 1 : 0, 0, LEAVES_IT),
        new Row("has(8, 0)", x -> x.has(8, 0) ? 1 : 0, 0, LEAVES_IT),
        new Row("widens(3, 4)", x -> x.widens(3, 4) ? 1 : 0, 1, LEAVES_IT),
        new Row("widens(4, 3)", x -> x.widens(4, 3) ? 1 : 0, 0, LEAVES_IT),
        new Row("widens(0, 8)", x -> x.widens(0, 8) ? 1 : 0, 0, LEAVES_IT),
        new Row("cast(4, 1, 300)", x -> x.cast(4, 1, 300), 44, 0),
        new Row("cast(5, 6, 16777217)", x -> x.cast(5, 6, 16777217), 0x4B800000L, 0),
        new Row("cast(4, 0, 1)", x -> x.cast(4, 0, 1), 0, 1),
        new Row("work(1, 1, 127, 1, 1)", x -> x.work(1, 1, 127, 1, 1), 128, 0),
        new Row("work(5, 7, 1.0, 4, 2)", x -> x.work(5, 7, 0x3FF0000000000000L, 4, 2), 0x3FF0000000000000L, 0),
        new Row("work(0, 4, 1, 4, 1)", x -> x.work(0, 4, 1, 4, 1), 0, 1),
        new Row("work(4, 4, 5, 4, 0)", x -> x.work(4, 4, 5, 4, 0), 0, 8),
        new Row("work(4, 6, 0, 6, 0)", x -> x.work(4, 6, 0, 6, 0), 0, 8),
        new Row("shift(7, 4, -8, 33)", x -> x.shift(7, 4, -8, 33), -4, 0),
        new Row("shift(8, 5, -1, 63)", x -> x.shift(8, 5, -1, 63), 1, 0),
        new Row("shift(6, 7, 0, 1)", x -> x.shift(6, 7, 0, 1), 0, 1),
        new Row("compare(1, 1, 5, 2)", x -> x.compare(1, 1, 5, 2), -1, 0),
        new Row("compare(7, -0.0, 6, 0.0)", x -> x.compare(7, Long.MIN_VALUE, 6, 0), 0, 0),
        new Row("compare(0, 1, 4, 1)", x -> x.compare(0, 1, 4, 1), 2, 1),
        new Row("order(7, 0.0, -0.0)", x -> x.order(7, 0, Long.MIN_VALUE), 1, 0),
        new Row("order(0, 0, 1)", x -> x.order(0, 0, 1), -1, 0),
        new Row("order(3, -1, 0)", x -> x.order(3, -1, 0), 2, 1));

    /** An object at some place of its life, and what failed() has to say there. */
    private static final class Life {
        private final KindNumbers numbers = new KindNumbers();
        private int calls;
        private int why;

        void call(Row row) {
            calls++;
            DUE.is(row.call + " as call " + calls, row.made.applyAsLong(numbers), row.want);
            if (row.why != LEAVES_IT) {
                why = row.why;
            }
        }

        void askFailed() {
            calls++;
            DUE.is("failed() as call " + calls, numbers.failed(), why);
        }

        boolean isOver() {
            return calls == CALLS_OF_A_LIFE;
        }
    }

    /** Steps of all widths but 0 go from each row to each other one, as the number of rows is a prime. */
    private static Row row(int step, int width) {
        return ROWS.get(step * width % ROWS.size());
    }

    private static void askedAfterEachCall() {
        DUE.sentence("An object is used for at most 512 calls after it has been made: failed() after each");
        for (int width = 1; width < ROWS.size(); width++) {
            Life life = new Life();
            for (int step = 0; !life.isOver(); step++) {
                life.call(row(step, width));
                life.askFailed();
            }
        }
    }

    private static void askedAtTheEnd() {
        DUE.sentence("An object is used for at most 512 calls after it has been made: failed() as the last");
        for (int width = 1; width < ROWS.size(); width++) {
            Life life = new Life();
            for (int step = 1; step < CALLS_OF_A_LIFE; step++) {
                life.call(row(step, width));
            }
            life.askFailed();
        }
    }

    private static void theSameCallAgain() {
        DUE.sentence("An object is used for at most 512 calls after it has been made: one call all along");
        for (Row row : ROWS) {
            Life life = new Life();
            for (int call = 1; call < CALLS_OF_A_LIFE; call++) {
                life.call(row);
            }
            life.askFailed();
        }
    }

    private static void sideBySide() {
        DUE.sentence("the latest cast(), work(), shift(), compare() or order(): of this object, not of another");
        for (int width = 1; width < ROWS.size(); width++) {
            Life one = new Life();
            Life other = new Life();
            for (int step = 0; !one.isOver(); step++) {
                one.call(row(step, width));
                other.call(row(step, ROWS.size() - width));
                one.askFailed();
                other.askFailed();
            }
        }
    }

    public static void main(String[] args) {
        askedAfterEachCall();
        askedAtTheEnd();
        theSameCallAgain();
        sideBySide();
        DUE.end();
    }
}
