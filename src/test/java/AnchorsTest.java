/** Promises 9 to 14: days by kalends, nones and ides. */
public final class AnchorsTest {
    private static final Check check = new Check();
    private static final int K = 0;
    private static final int N = 1;
    private static final int I = 2;
    private static final int[] NONES_DAYS = {5, 5, 7, 5, 7, 5, 7, 5, 5, 7, 5, 5};
    private static final int[] LENGTHS = {31, 28, 31, 30, 31, 30, 31, 31, 30, 31, 30, 31};
    /** By months, for their kalends: of these, January's are those behind December's ides. */
    private static final int[] KALENDS_COUNTS =
            {19, 19, 16, 17, 18, 17, 18, 17, 19, 18, 17, 18};

    public static void main(String[] args) {
        for (int month = 1; month <= 12; month++) {
            roundTheAnchors(3, month);
            roundTheAnchors(4, month);
        }
        doubledDay();
        noOtherDayIsDoubled();
        endOfYear();
        Wrong.numbers(check, 9, "anchorOf(%)");
        Wrong.numbers(check, 10, "anchorMonthOf(%)");
        Wrong.numbers(check, 11, "countOf(%)");
        Wrong.numbers(check, 12, "isDoubled(%)");
        yearOfTheDayItself();
        doubledMeant();
        noDayToldSo();
        greatestCounts();
        wrongYearsAndMonths();
        wrongAnchorsAndCounts();
        check.end(9, 14);
    }

    /** A day that is told so, and found again so. */
    private static void told(String sentence, int year, int month, int day, int anchor,
            int anchorMonth, int count) {
        told(sentence, year, month, day, anchor, anchorMonth, count, false);
    }

    private static void told(String sentence, int year, int month, int day, int anchor,
            int anchorMonth, int count, boolean isDoubled) {
        Run x = new Run(check);
        int number = new RomanCalendar().number(year, month, day);
        String date = sentence + ", " + year + "-" + month + "-" + day;
        check.promise(9, date);
        x.due("anchorOf(" + number + ")", anchor);
        check.promise(10, date);
        x.due("anchorMonthOf(" + number + ")", anchorMonth);
        check.promise(11, date);
        x.due("countOf(" + number + ")", count);
        check.promise(12, date);
        if (isDoubled) {
            x.yes("isDoubled(" + number + ")");
        } else {
            x.no("isDoubled(" + number + ")");
        }
        check.promise(13, date);
        x.due("fromCount(" + year + ", " + anchorMonth + ", " + anchor + ", " + count + ", "
                + isDoubled + ")", number);
    }

    /** Each anchor of a month, and the days on either side of it. */
    private static void roundTheAnchors(int year, int month) {
        int nones = NONES_DAYS[month - 1];
        int ides = nones + 8;
        int next = month % 12 + 1;
        int last = month == 2 && year % 4 == 0 ? 29 : LENGTHS[month - 1];
        told("the kalends are day 1", year, month, 1, K, month, 1);
        told("behind the kalends", year, month, 2, N, month, nones - 1);
        told("2 for the day before the nones", year, month, nones - 1, N, month, 2);
        told("the nones", year, month, nones, N, month, 1);
        told("behind the nones", year, month, nones + 1, I, month, 8);
        told("2 for the day before the ides", year, month, ides - 1, I, month, 2);
        told("the ides 8 days behind the nones", year, month, ides, I, month, 1);
        told("the kalends of the next month, behind the ides", year, month, ides + 1, K, next,
                KALENDS_COUNTS[next - 1]);
        told("2 for the day before the kalends", year, month, last, K, next, 2);
    }

    private static void doubledDay() {
        String common = "a common year has no doubled day";
        told(common, 3, 2, 23, K, 3, 7);
        told(common, 3, 2, 24, K, 3, 6);
        told(common, 3, 2, 25, K, 3, 5);
        told(common, 2999, 2, 24, K, 3, 6);
        String upToIt = "days from behind the ides up to it count as without it";
        for (int day = 14; day <= 23; day++) {
            told(upToIt, 4, 2, day, K, 3, 30 - day);
        }
        for (int year : new int[] {4, 100, 1900, 2000, 3000}) {
            told("day 24 is the doubled day", year, 2, 24, K, 3, 6, true);
            told("the same count as day 25", year, 2, 25, K, 3, 6);
        }
        for (int day = 26; day <= 29; day++) {
            told("behind the doubled day", 4, 2, day, K, 3, 31 - day);
        }
        told("March's kalends in a leap year", 4, 3, 1, K, 3, 1);
    }

    private static void noOtherDayIsDoubled() {
        check.promise(12, "no other day is");
        for (int first : new int[] {1095, 1095384}) {
            Run x = new Run(check);
            for (int number = first; number < first + 366; number++) {
                if (number == first + 54) {
                    x.yes("isDoubled(" + number + ")");
                } else {
                    x.no("isDoubled(" + number + ")");
                }
            }
        }
        Run x = new Run(check);
        for (int number = 0; number < 365; number++) {
            x.no("isDoubled(" + number + ")");
        }
    }

    private static void endOfYear() {
        String behind = "1 for a day behind the ides of December";
        told("the ides of December", 1, 12, 13, I, 12, 1);
        told(behind, 1, 12, 14, K, 1, 19);
        told(behind, 1, 12, 31, K, 1, 2);
        told("the first day of the next year", 2, 1, 1, K, 1, 1);
        told(behind, 4, 12, 14, K, 1, 19);
        told(behind, 4, 12, 31, K, 1, 2);
        told(behind, 3000, 12, 14, K, 1, 19);
        told(behind, 3000, 12, 31, K, 1, 2);
        told("the first day of all", 1, 1, 1, K, 1, 1);
    }

    private static void yearOfTheDayItself() {
        check.promise(13, "the year of the day itself");
        Run x = new Run(check);
        x.due("fromCount(1, 1, KALENDS, 1, false)", 0);
        x.due("fromCount(1, 1, KALENDS, 2, false)", 364);
        x.due("fromCount(1, 1, KALENDS, 19, false)", 347);
        x.due("fromCount(2, 1, KALENDS, 1, false)", 365);
        x.due("fromCount(4, 1, KALENDS, 1, false)", 1095);
        x.due("fromCount(4, 1, KALENDS, 2, false)", 1460);
        x.due("fromCount(4, 1, KALENDS, 19, false)", 1443);
        x.due("fromCount(3000, 1, KALENDS, 1, false)", 1095384);
        x.due("fromCount(3000, 1, KALENDS, 2, false)", 1095749);
    }

    private static void doubledMeant() {
        Run x = Wrong.busy(check);
        check.promise(13, "whether the doubled day is meant");
        x.due("fromCount(4, 3, KALENDS, 5, false)", 1151);
        x.due("fromCount(4, 3, KALENDS, 6, false)", 1150);
        x.due("fromCount(4, 3, KALENDS, 6, true)", 1149);
        x.due("fromCount(4, 3, KALENDS, 7, false)", 1148);
        x.due("fromCount(3000, 3, KALENDS, 6, true)", 1095438);
        x.due("fromCount(3, 3, KALENDS, 6, false)", 784);
        check.promise(13, "throws IllegalStateException if no doubled day is told so");
        for (int year : new int[] {1, 2, 3, 5, 2999}) {
            x.noState("fromCount(" + year + ", 3, KALENDS, 6, true)");
        }
        for (int count : new int[] {1, 2, 5, 7, 16, 17, Integer.MAX_VALUE}) {
            x.noState("fromCount(4, 3, KALENDS, " + count + ", true)");
        }
        for (int month = 1; month <= 12; month++) {
            if (month != 3) {
                x.noState("fromCount(4, " + month + ", KALENDS, 6, true)");
            }
        }
        for (int month = 2; month <= 3; month++) {
            x.noState("fromCount(4, " + month + ", NONES, 6, true)");
            x.noState("fromCount(4, " + month + ", IDES, 6, true)");
        }
    }

    private static void noDayToldSo() {
        check.promise(13, "throws IllegalStateException if no day of the year is told so");
        for (int year : new int[] {1, 3, 4, 3000}) {
            Run x = new Run(check);
            for (int month = 1; month <= 12; month++) {
                String in = "fromCount(" + year + ", " + month + ", ";
                x.noState(in + "KALENDS, " + (KALENDS_COUNTS[month - 1] + 1) + ", false)");
                x.noState(in + "NONES, " + NONES_DAYS[month - 1] + ", false)");
                x.noState(in + "IDES, 9, false)");
            }
        }
        Run x = Wrong.busy(check);
        for (String anchor : new String[] {"KALENDS", "NONES", "IDES"}) {
            x.noState("fromCount(1, 1, " + anchor + ", GREATEST, false)");
            x.noState("fromCount(4, 3, " + anchor + ", GREATEST, false)");
            x.noState("fromCount(3000, 12, " + anchor + ", GREATEST, true)");
        }
    }

    private static void greatestCounts() {
        for (int year : new int[] {1, 3, 4, 100, 2999, 3000}) {
            check.promise(14, year % 4 == 0 ? "of a leap year" : "of a common year");
            Run x = new Run(check);
            for (int month = 1; month <= 12; month++) {
                String in = "greatestCount(" + year + ", " + month + ", ";
                x.due(in + "KALENDS)", KALENDS_COUNTS[month - 1]);
                x.due(in + "NONES)", NONES_DAYS[month - 1] - 1);
                x.due(in + "IDES)", 8);
            }
        }
    }

    private static void wrongYearsAndMonths() {
        Run x = Wrong.busy(check);
        for (int year : Wrong.YEARS) {
            refusedFirst(x, "no such year", year + ", 1");
        }
        x = Wrong.busy(check);
        for (int month : Wrong.MONTHS) {
            refusedFirst(x, "no such month", "1, " + month);
            refusedFirst(x, "no such month", "4, " + month);
        }
        refusedFirst(x, "no such year and no such month", "0, 13");
    }

    /** There is no such year or month: whatever the other arguments are, this decides. */
    private static void refusedFirst(Run x, String sentence, String yearAndMonth) {
        check.promise(13, sentence);
        x.noIndex("fromCount(" + yearAndMonth + ", KALENDS, 1, false)");
        check.promise(13, sentence + " decides ahead of the other lines");
        x.noIndex("fromCount(" + yearAndMonth + ", 3, 1, false)");
        x.noIndex("fromCount(" + yearAndMonth + ", KALENDS, 0, false)");
        x.noIndex("fromCount(" + yearAndMonth + ", KALENDS, 99, false)");
        x.noIndex("fromCount(" + yearAndMonth + ", NONES, 6, true)");
        check.promise(14, sentence);
        x.noIndex("greatestCount(" + yearAndMonth + ", KALENDS)");
        check.promise(14, sentence + " decides ahead of the other line");
        x.noIndex("greatestCount(" + yearAndMonth + ", 3)");
    }

    private static void wrongAnchorsAndCounts() {
        Run x = Wrong.busy(check);
        for (int anchor : Wrong.ANCHORS) {
            check.promise(13, "throws IllegalArgumentException if there is no such anchor");
            x.noArgument("fromCount(4, 1, " + anchor + ", 1, false)");
            check.promise(13, "no such anchor decides ahead of the last line");
            x.noArgument("fromCount(4, 1, " + anchor + ", 99, false)");
            x.noArgument("fromCount(4, 3, " + anchor + ", 6, true)");
            check.promise(14, "throws IllegalArgumentException if there is no such anchor");
            x.noArgument("greatestCount(4, 1, " + anchor + ")");
            x.noArgument("greatestCount(3000, 12, " + anchor + ")");
        }
        for (int count : Wrong.COUNTS) {
            check.promise(13, "throws IllegalArgumentException if count is below 1");
            x.noArgument("fromCount(4, 1, KALENDS, " + count + ", false)");
            x.noArgument("fromCount(4, 1, NONES, " + count + ", false)");
            x.noArgument("fromCount(4, 1, IDES, " + count + ", false)");
            check.promise(13, "count below 1 decides ahead of the last line");
            x.noArgument("fromCount(3, 3, KALENDS, " + count + ", true)");
        }
    }
}
