/** Counts and prints the answers that are not the ones that are due, each under the sentence that asks for it. */
final class Due {
    private String sentence = "";
    private boolean told;
    private int wrong;

    /** What follows is asked for by these words of the document. */
    void sentence(String words) {
        sentence = words;
        told = false;
    }

    void is(String call, long got, long want) {
        if (got == want) {
            return;
        }
        wrong++;
        // A broken class can fail a sweep a million times over; the first rows of a sentence tell enough.
        if (!told) {
            System.out.println("does not hold: " + sentence);
            told = true;
        }
        if (wrong <= 50) {
            System.out.println("  " + call + " answered " + got + ", due is " + want);
        }
    }

    void is(String call, boolean got, boolean want) {
        is(call, got ? 1 : 0, want ? 1 : 0);
    }

    void end() {
        if (wrong != 0) {
            System.out.println(wrong + " answers are not as due");
            System.exit(1);
        }
    }
}
