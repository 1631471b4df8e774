import java.util.ArrayList;
import java.util.List;
import java.util.TreeSet;

/** The questions whose answers, taken together, tell all that a calendar keeps. */
final class Kept {
    private static final List<Call> ABOUT_PLACES = aboutPlaces();

    private Kept() {
    }

    /** Answers the questions by parts of at most so many, each part for an object of its own. */
    static List<List<Call>> questions(List<Call> calls, int most) {
        List<Call> all = new ArrayList<>(ABOUT_PLACES);
        all.addAll(aboutYears(calls));
        List<List<Call>> parts = new ArrayList<>();
        for (int from = 0; most > 0 && from < all.size(); from += most) {
            parts.add(all.subList(from, Math.min(from + most, all.size())));
        }
        if (most > 0) {
            // These tell how many years have consuls, and whether there is room for one more.
            parts.add(List.of(new Call("setConsuls(2997, 998, 997)")));
            parts.add(List.of(new Call("strikeConsuls(2997)")));
            parts.add(List.of(new Call("setMarketDay(0)")));
        }
        return parts;
    }

    private static List<Call> aboutPlaces() {
        List<Call> questions = new ArrayList<>();
        for (int number = 0; number < 8; number++) {
            questions.add(new Call("isMarket(" + number + ")"));
        }
        for (int number = 0; number < 365; number++) {
            questions.add(new Call("characterOf(" + number + ")"));
        }
        return questions;
    }

    private static List<Call> aboutYears(List<Call> calls) {
        TreeSet<Integer> years = new TreeSet<>(List.of(1, 2, 4, 3000));
        TreeSet<String> texts = new TreeSet<>();
        for (Call call : calls) {
            if (call.name.equals("setConsuls") || call.name.equals("strikeConsuls")) {
                years.add((Integer) call.arguments[0]);
            }
            if (call.name.equals("setConsuls")) {
                texts.add("yearOfConsuls(" + call.arguments[1] + ", " + call.arguments[2] + ", 1)");
            }
        }
        for (int year : years) {
            if (year >= 1 && year <= 3000) {
                texts.add("consulsOf(" + year + ")");
                texts.add("afterConsuls(" + year + ")");
            }
        }
        List<Call> questions = new ArrayList<>();
        for (String text : texts) {
            questions.add(new Call(text));
        }
        return questions;
    }
}
