import java.util.Arrays;
import java.util.function.ToLongFunction;

/** Calls with the answers that are due, each told together with what failed() then says. */
final class Calls {
    static final int WRONG_CALL = 1;
    static final int NO_RESULT = 8;

    private final Due due = new Due();

    void sentence(String words) {
        due.sentence(words);
    }

    void end() {
        due.end();
    }

    void has(int kind, long bits, boolean want) {
        due.is("has(" + kind + ", " + bits + ")", new KindNumbers().has(kind, bits), want);
    }

    void widens(int from, int to, boolean want) {
        due.is("widens(" + from + ", " + to + ")", new KindNumbers().widens(from, to), want);
    }

    void cast(int from, int to, long bits, long want) {
        answers(numbers -> numbers.cast(from, to, bits), want, 0, "cast", from, to, bits);
    }

    void castFails(int from, int to, long bits) {
        answers(numbers -> numbers.cast(from, to, bits), 0, WRONG_CALL, "cast", from, to, bits);
    }

    void work(int what, int kind, long a, int other, long b, long want) {
        answers(numbers -> numbers.work(what, kind, a, other, b), want, 0, "work", what, kind, a, other, b);
    }

    void workFails(int what, int kind, long a, int other, long b, int why) {
        answers(numbers -> numbers.work(what, kind, a, other, b), 0, why, "work", what, kind, a, other, b);
    }

    /** A work() of two numbers, held against what Java itself answers. */
    void workAsPlain(int what, int kind, long a, int other, long b) {
        long want = Plain.work(what, kind, a, other, b);
        if (want == Plain.NO_RESULT) {
            workFails(what, kind, a, other, b, NO_RESULT);
        } else {
            work(what, kind, a, other, b, want);
        }
    }

    void shift(int what, int kind, long a, long n, long want) {
        answers(numbers -> numbers.shift(what, kind, a, n), want, 0, "shift", what, kind, a, n);
    }

    void shiftFails(int what, int kind, long a, long n) {
        answers(numbers -> numbers.shift(what, kind, a, n), 0, WRONG_CALL, "shift", what, kind, a, n);
    }

    void compare(int kind, long a, int other, long b, int want) {
        answers(numbers -> numbers.compare(kind, a, other, b), want, 0, "compare", kind, a, other, b);
    }

    void compareFails(int kind, long a, int other, long b) {
        answers(numbers -> numbers.compare(kind, a, other, b), 2, WRONG_CALL, "compare", kind, a, other, b);
    }

    void order(int kind, long a, long b, int want) {
        answers(numbers -> numbers.order(kind, a, b), want, 0, "order", kind, a, b);
    }

    void orderFails(int kind, long a, long b) {
        answers(numbers -> numbers.order(kind, a, b), 2, WRONG_CALL, "order", kind, a, b);
    }

    private void answers(ToLongFunction<KindNumbers> call, long want, int why, String name, long... arguments) {
        answersOn(new KindNumbers(), call, want, why, name, arguments);
        // An object with a failure behind it shows whether the call itself sets what failed() says.
        answersOn(failedOtherwise(why), call, want, why, name, arguments);
    }

    private static KindNumbers failedOtherwise(int why) {
        KindNumbers numbers = new KindNumbers();
        if (why == NO_RESULT) {
            numbers.cast(0, 1, 1);
        } else {
            numbers.work(4, 4, 1, 4, 0);
        }
        return numbers;
    }

    private void answersOn(KindNumbers numbers, ToLongFunction<KindNumbers> call, long want, int why,
            String name, long... arguments) {
        long got = call.applyAsLong(numbers);
        int failed = numbers.failed();
        if (got != want || failed != why) {
            String list = Arrays.toString(arguments);
            String text = name + "(" + list.substring(1, list.length() - 1) + ")";
            due.is(text, got, want);
            due.is("failed() after " + text, failed, why);
        }
    }
}
