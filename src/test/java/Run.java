import java.util.ArrayList;
import java.util.List;

/**
 * Calls on one new object, each with what is due. Behind each call that is to be refused, two
 * more objects are led through the same run, one with that call and one without it, and must
 * then answer the same: a call that throws changes nothing.
 */
final class Run {
    /** Behind so many calls an object's answers are free. */
    private static final int MOST_CALLS = 512;

    private final Check check;
    private final RomanCalendar x = new RomanCalendar();
    private final List<Call> calls = new ArrayList<>();

    Run(Check check) {
        this.check = check;
    }

    void due(String text, int due) {
        check.equal(text, answer(text), due);
    }

    void yes(String text) {
        check.equal(text, answer(text), true);
    }

    void no(String text) {
        check.equal(text, answer(text), false);
    }

    void noIndex(String text) {
        refused(text, "IndexOutOfBoundsException");
    }

    void noArgument(String text) {
        refused(text, "IllegalArgumentException");
    }

    void noState(String text) {
        refused(text, "IllegalStateException");
    }

    int callsLeft() {
        return MOST_CALLS - calls.size();
    }

    private Object answer(String text) {
        if (callsLeft() == 0) {
            throw new AssertionError("a run has at most " + MOST_CALLS + " calls");
        }
        Call call = new Call(text);
        calls.add(call);
        return call.on(x);
    }

    private void refused(String text, String exception) {
        check.equal(text, answer(text), "throws " + exception);
        List<Call> without = calls.subList(0, calls.size() - 1);
        for (List<Call> questions : Kept.questions(calls, callsLeft())) {
            RomanCalendar with = ledThrough(calls);
            RomanCalendar other = ledThrough(without);
            for (Call question : questions) {
                check.equal(question.text + " behind " + text + ", which throws,",
                        question.on(with), question.on(other));
            }
        }
    }

    private static RomanCalendar ledThrough(List<Call> calls) {
        RomanCalendar calendar = new RomanCalendar();
        for (Call call : calls) {
            call.on(calendar);
        }
        return calendar;
    }
}
