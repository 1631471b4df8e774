/** Promises 9 to 14: days by kalends, nones and ides. */
public final class AnchorsTest {
    private static final Check check = new Check();
    private static final int K = RomanCalendar.KALENDS;
    private static final int N = RomanCalendar.NONES;
    private static final int I = RomanCalendar.IDES;
    /** By months, for their kalends: of these, January's are those behind December's ides. */
    private static final int[] KALENDS_COUNTS =
            {19, 19, 16, 17, 18, 17, 18, 17, 19, 18, 17, 18};

    public static void main(String[] args) {
        january();
        march();
        doubledDay();
        endOfYear();
        fromCounts();
        greatestCounts();
        wrongNumbers();
        wrongCounts();
        check.end();
    }

    /** A day that is told so, and found again so. */
    private static void told(int year, int month, int day, int anchor, int anchorMonth,
            int count, boolean isDoubled) {
        RomanCalendar x = new RomanCalendar();
        int number = x.number(year, month, day);
        String date = " of " + year + "-" + month + "-" + day;
        check.equal("anchorOf" + date, x.anchorOf(number), anchor);
        check.equal("anchorMonthOf" + date, x.anchorMonthOf(number), anchorMonth);
        check.equal("countOf" + date, x.countOf(number), count);
        check.equal("isDoubled" + date, x.isDoubled(number), isDoubled);
        check.equal("fromCount" + date,
                x.fromCount(year, anchorMonth, anchor, count, isDoubled), number);
    }

    private static void january() {
        told(1, 1, 1, K, 1, 1, false);
        told(1, 1, 2, N, 1, 4, false);
        told(1, 1, 5, N, 1, 1, false);
        told(1, 1, 6, I, 1, 8, false);
        told(1, 1, 13, I, 1, 1, false);
        told(1, 1, 14, K, 2, 19, false);
        told(1, 1, 31, K, 2, 2, false);
        told(1, 2, 1, K, 2, 1, false);
    }

    private static void march() {
        for (int month : new int[] {3, 5, 7, 10}) {
            told(7, month, 2, N, month, 6, false);
            told(7, month, 7, N, month, 1, false);
            told(7, month, 8, I, month, 8, false);
            told(7, month, 15, I, month, 1, false);
            told(7, month, 16, K, month + 1, 17, false);
        }
    }

    private static void doubledDay() {
        told(3, 2, 14, K, 3, 16, false);
        told(3, 2, 23, K, 3, 7, false);
        told(3, 2, 24, K, 3, 6, false);
        told(3, 2, 25, K, 3, 5, false);
        told(3, 2, 28, K, 3, 2, false);
        told(4, 2, 13, I, 2, 1, false);
        told(4, 2, 14, K, 3, 16, false);
        told(4, 2, 23, K, 3, 7, false);
        told(4, 2, 24, K, 3, 6, true);
        told(4, 2, 25, K, 3, 6, false);
        told(4, 2, 26, K, 3, 5, false);
        told(4, 2, 29, K, 3, 2, false);
        told(4, 3, 1, K, 3, 1, false);
        told(3000, 2, 24, K, 3, 6, true);
    }

    private static void endOfYear() {
        told(1, 12, 13, I, 12, 1, false);
        told(1, 12, 14, K, 1, 19, false);
        told(1, 12, 31, K, 1, 2, false);
        told(2, 1, 1, K, 1, 1, false);
        told(4, 12, 31, K, 1, 2, false);
        told(3000, 12, 14, K, 1, 19, false);
        told(3000, 12, 31, K, 1, 2, false);
    }

    private static void fromCounts() {
        RomanCalendar x = new RomanCalendar();
        check.equal("fromCount(1, 1, K, 2, false)", x.fromCount(1, 1, K, 2, false), 364);
        check.equal("fromCount(1, 1, K, 1, false)", x.fromCount(1, 1, K, 1, false), 0);
        check.equal("fromCount(4, 3, K, 6, true)", x.fromCount(4, 3, K, 6, true), 1149);
        check.equal("fromCount(4, 3, K, 6, false)", x.fromCount(4, 3, K, 6, false), 1150);
        check.equal("fromCount(4, 3, K, 7, false)", x.fromCount(4, 3, K, 7, false), 1148);
        check.equal("fromCount(4, 3, K, 5, false)", x.fromCount(4, 3, K, 5, false), 1151);
    }

    private static void greatestCounts() {
        RomanCalendar x = new RomanCalendar();
        for (int year : new int[] {1, 4, 100, 2999, 3000}) {
            for (int month = 1; month <= 12; month++) {
                boolean isLong = month == 3 || month == 5 || month == 7 || month == 10;
                greatest(x, year, month, K, KALENDS_COUNTS[month - 1]);
                greatest(x, year, month, N, isLong ? 6 : 4);
                greatest(x, year, month, I, 8);
            }
        }
    }

    /** The greatest count finds a day, and one more finds none. */
    private static void greatest(RomanCalendar x, int year, int month, int anchor, int due) {
        String of = "(" + year + ", " + month + ", " + anchor + ")";
        RomanCalendar y = new RomanCalendar();
        check.equal("greatestCount" + of, x.greatestCount(year, month, anchor), due);
        int number = y.fromCount(year, month, anchor, due, false);
        check.equal("the count of the day with the greatest one" + of, y.countOf(number), due);
        check.noState("the count above the greatest" + of,
                () -> y.fromCount(year, month, anchor, due + 1, false));
    }

    private static void wrongNumbers() {
        RomanCalendar x = new RomanCalendar();
        for (int number : Check.wrongNumbers()) {
            check.noIndex("anchorOf(" + number + ")", () -> x.anchorOf(number));
            check.noIndex("anchorMonthOf(" + number + ")", () -> x.anchorMonthOf(number));
            check.noIndex("countOf(" + number + ")", () -> x.countOf(number));
            check.noIndex("isDoubled(" + number + ")", () -> x.isDoubled(number));
        }
    }

    private static void wrongCounts() {
        RomanCalendar x = new RomanCalendar();
        for (int year : Check.wrongYears()) {
            check.noIndex("fromCount of " + year, () -> x.fromCount(year, 1, 9, 0, false));
            check.noIndex("greatestCount of " + year, () -> x.greatestCount(year, 1, 9));
        }
        for (int month : Check.wrongMonths()) {
            check.noIndex("fromCount in " + month, () -> x.fromCount(4, month, 9, 0, false));
            check.noIndex("greatestCount in " + month, () -> x.greatestCount(4, month, 9));
        }
        for (int anchor : new int[] {-1, 3, Integer.MIN_VALUE, Integer.MAX_VALUE}) {
            check.noArgument("fromCount by " + anchor,
                    () -> x.fromCount(4, 1, anchor, 99, false));
            check.noArgument("greatestCount by " + anchor, () -> x.greatestCount(4, 1, anchor));
        }
        for (int count : new int[] {0, -1, Integer.MIN_VALUE}) {
            check.noArgument("fromCount with " + count, () -> x.fromCount(4, 1, K, count, true));
        }
        check.noState("fromCount with the greatest int",
                () -> x.fromCount(4, 1, K, Integer.MAX_VALUE, false));
        check.noState("doubled in a common year", () -> x.fromCount(3, 3, K, 6, true));
        check.noState("doubled with 5", () -> x.fromCount(4, 3, K, 5, true));
        check.noState("doubled with 7", () -> x.fromCount(4, 3, K, 7, true));
        check.noState("doubled in April", () -> x.fromCount(4, 4, K, 6, true));
        check.noState("doubled by nones", () -> x.fromCount(4, 3, N, 6, true));
        check.noState("doubled by ides", () -> x.fromCount(4, 3, I, 6, true));
    }
}
