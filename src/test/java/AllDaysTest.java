/** Every day and every year on objects fresh from time to time, against the naive calendar. */
public final class AllDaysTest {
    /** An object's answers are promised for 512 calls. */
    private static final int DAYS_AN_OBJECT = 24;

    private static final Check check = new Check();
    private static final NaiveCalendar naive = new NaiveCalendar();

    public static void main(String[] args) {
        RomanCalendar x = new RomanCalendar();
        for (int number = 0; number < x.days(); number++) {
            if (number % DAYS_AN_OBJECT == 0) {
                x = new RomanCalendar();
            }
            day(x, number);
            told(x, number);
        }
        for (int year = 1; year <= 3000; year++) {
            year(new RomanCalendar(), year);
            markets(new RomanCalendar(), year);
        }
        check.end();
    }

    private static void day(RomanCalendar x, int n) {
        equal("yearOf", n, x.yearOf(n), naive.yearOf(n));
        equal("monthOf", n, x.monthOf(n), naive.monthOf(n));
        equal("dayOf", n, x.dayOf(n), naive.dayOf(n));
        equal("weekdayOf", n, x.weekdayOf(n), naive.weekdayOf(n));
        equal("lawNumber", n, x.lawNumber(n), naive.lawNumber(n));
        equal("placeOf", n, x.placeOf(n), naive.placeOf(n));
        equal("letterOfEight", n, x.letterOfEight(n), naive.letterOfEight(n));
        equal("letterOfSeven", n, x.letterOfSeven(n), naive.letterOfSeven(n));
        equal("characterOf", n, x.characterOf(n), naive.characterOf(n));
        equal("canVote", n, x.canVote(n) ? 1 : 0, naive.canVote(n) ? 1 : 0);
        equal("nextCourt", n, x.nextCourt(n), naive.nextCourt(n));
        equal("termEnd in 0", n, x.termEnd(n, 0), naive.termEnd(n, 0));
    }

    /** What a day is told by, and the way back from it. */
    private static void told(RomanCalendar x, int n) {
        int year = naive.yearOf(n);
        int anchor = naive.anchorOf(n);
        int anchorMonth = naive.anchorMonthOf(n);
        int count = naive.countOf(n);
        boolean isDoubled = naive.isDoubled(n);
        equal("anchorOf", n, x.anchorOf(n), anchor);
        equal("anchorMonthOf", n, x.anchorMonthOf(n), anchorMonth);
        equal("countOf", n, x.countOf(n), count);
        equal("isDoubled", n, x.isDoubled(n) ? 1 : 0, isDoubled ? 1 : 0);
        equal("fromCount of", n, x.fromCount(year, anchorMonth, anchor, count, isDoubled), n);
        int month = naive.monthOf(n);
        int day = naive.dayOf(n);
        equal("number of", n, x.number(year, month, day), n);
        equal("numberByCounting of", n, x.numberByCounting(year, month, day), n);
    }

    private static void year(RomanCalendar x, int year) {
        equal("sundayLetters", year, x.sundayLetters(year), naive.sundayLetters(year));
        equal("votes", year, x.votes(year), naive.votes(year));
        for (int month = 1; month <= 12; month++) {
            for (int anchor = 0; anchor <= 2; anchor++) {
                equal("greatestCount in " + month + " of", year,
                        x.greatestCount(year, month, anchor),
                        naive.greatestCount(year, month, anchor));
            }
        }
    }

    private static void markets(RomanCalendar x, int year) {
        NaiveCalendar other = new NaiveCalendar();
        for (int market = 0; market < 8; market++) {
            x.setMarketDay(market);
            other.setMarketDay(market);
            equal("marketLetters", year, x.marketLetters(year), other.marketLetters(year));
            equal("votes", year, x.votes(year), other.votes(year));
        }
    }

    private static void equal(String call, int argument, int got, int due) {
        if (got != due) {
            check.equal(call + " " + argument, got, due);
        } else {
            // Millions of right answers need no text of their own.
            check.equal("", got, due);
        }
    }
}
