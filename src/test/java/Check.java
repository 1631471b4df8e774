/** Counts what a test finds, prints each wrong answer, and ends the test's run. */
final class Check {
    /** At more than this many lines the rest are counted alone. */
    private static final int MOST_LINES = 50;

    private int checks = 0;
    private int wrong = 0;

    void equal(String call, long got, long due) {
        checks++;
        if (got != due) {
            report(call + " answered " + got + ", due is " + due);
        }
    }

    void equal(String call, Object got, Object due) {
        checks++;
        if (!due.equals(got)) {
            report(call + " answered " + got + ", due is " + due);
        }
    }

    void yes(String call, boolean got) {
        checks++;
        if (!got) {
            report(call + " answered false, due is true");
        }
    }

    void no(String call, boolean got) {
        checks++;
        if (got) {
            report(call + " answered true, due is false");
        }
    }

    /** The very class is asked, as a class below it would be another exception. */
    void throwing(Class<? extends RuntimeException> due, String call, Runnable body) {
        checks++;
        try {
            body.run();
        } catch (RuntimeException e) {
            if (e.getClass() != due) {
                report(call + " threw " + e + ", due is " + due.getSimpleName());
            }
            return;
        }
        report(call + " threw nothing, due is " + due.getSimpleName());
    }

    void noIndex(String call, Runnable body) {
        throwing(IndexOutOfBoundsException.class, call, body);
    }

    void noArgument(String call, Runnable body) {
        throwing(IllegalArgumentException.class, call, body);
    }

    void noState(String call, Runnable body) {
        throwing(IllegalStateException.class, call, body);
    }

    /** Numbers of days that there are not. */
    static int[] wrongNumbers() {
        return new int[] {-1, 1095750, -8, 1095757, Integer.MIN_VALUE, Integer.MAX_VALUE};
    }

    static int[] wrongYears() {
        return new int[] {0, 3001, -1, -4, Integer.MIN_VALUE, Integer.MAX_VALUE};
    }

    static int[] wrongMonths() {
        return new int[] {0, 13, -1, Integer.MIN_VALUE, Integer.MAX_VALUE};
    }

    private void report(String line) {
        wrong++;
        if (wrong <= MOST_LINES) {
            System.out.println(line);
        }
    }

    void end() {
        System.out.println(checks + " answers, " + wrong + " not as due");
        if (wrong != 0) {
            System.exit(1);
        }
    }
}
