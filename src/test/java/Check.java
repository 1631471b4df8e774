import java.util.TreeSet;

/**
 * Counts what a test finds, prints each wrong answer with the promise and the sentence that it
 * breaks, and ends the test's run.
 */
final class Check {
    /** At more than this many lines the rest are counted alone. */
    private static final int MOST_LINES = 50;

    private final TreeSet<Integer> promises = new TreeSet<>();
    private String sentence = "";
    private int checks = 0;
    private int wrong = 0;

    /** Says which sentence of which promise the next answers are asked for. */
    void promise(int number, String words) {
        promises.add(number);
        sentence = "promise " + number + ", " + words + ": ";
    }

    void equal(String call, long got, long due) {
        checks++;
        if (got != due) {
            report(call + " answered " + got + ", due is " + due);
        }
    }

    void equal(String call, Object got, Object due) {
        checks++;
        if (!due.equals(got)) {
            report(call + " answered " + got + ", due is " + due);
        }
    }

    void yes(String call, boolean got) {
        equal(call, got, true);
    }

    void no(String call, boolean got) {
        equal(call, got, false);
    }

    private void report(String line) {
        wrong++;
        if (wrong <= MOST_LINES) {
            System.out.println(sentence + line);
        }
    }

    /** Ends a test of these promises: none of them may have been left out. */
    void end(int first, int last) {
        for (int number = first; number <= last; number++) {
            if (!promises.contains(number)) {
                report("promise " + number + " was not asked for");
            }
        }
        end();
    }

    void end() {
        System.out.println(checks + " answers, " + wrong + " not as due");
        if (wrong != 0) {
            System.exit(1);
        }
    }
}
