/** Promises 1 to 8: a new object, and days by year, month and day. */
public final class DaysTest {
    private static final Check check = new Check();
    private static final int[] LENGTHS = {31, 28, 31, 30, 31, 30, 31, 31, 30, 31, 30, 31};

    public static void main(String[] args) {
        newObject();
        newObjectsShareNothing();
        fullLife();
        days();
        firstAndLastDay();
        monthsOfYears();
        eachNextDay();
        wrongYears();
        wrongMonths();
        wrongDays();
        partsOfNumbers();
        weekdays();
        Wrong.numbers(check, 5, "yearOf(%)");
        Wrong.numbers(check, 6, "monthOf(%)");
        Wrong.numbers(check, 7, "dayOf(%)");
        Wrong.numbers(check, 8, "weekdayOf(%)");
        check.end(1, 8);
    }

    private static void newObject() {
        check.promise(1, "no consuls");
        Run x = new Run(check);
        for (int year = 1; year <= 3000; year++) {
            if (x.callsLeft() == 0) {
                x = new Run(check);
            }
            x.due("consulsOf(" + year + ")", -1);
        }
        x = new Run(check);
        x.due("afterConsuls(1)", -1);
        x.due("afterConsuls(3000)", -1);
        x.due("yearOfConsuls(1, 2, 1)", -1);
        x.due("yearOfConsuls(0, 0, 1)", -1);
        x.noState("strikeConsuls(1)");
        x.noState("strikeConsuls(3000)");
        x.due("setConsuls(1, 2, 3)", 1);

        check.promise(1, "the market day is 0");
        x = new Run(check);
        x.yes("isMarket(0)");
        for (int number = 1; number < 8; number++) {
            x.no("isMarket(" + number + ")");
        }
        x.yes("isMarket(8)");
        x.due("marketLetters(1)", 0);
        x.due("setMarketDay(5)", 0);
    }

    private static void newObjectsShareNothing() {
        check.promise(1, "what one object is told, another one does not know");
        Run x = new Run(check);
        Run older = new Run(check);
        x.due("setMarketDay(5)", 0);
        x.due("setConsuls(1, 2, 3)", 1);
        x.due("setCharacter(1, NEFASTUS)", 0);
        knowsNothing(older);
        // Made only now, lest its making hide what the older one would know.
        knowsNothing(new Run(check));
        x.yes("isMarket(5)");
        x.due("consulsOf(1)", 2003);
        x.due("consulsOf(2)", -1);
        x.due("characterOf(0)", 1);
    }

    private static void knowsNothing(Run other) {
        other.yes("isMarket(0)");
        other.due("consulsOf(1)", -1);
        other.due("characterOf(0)", 0);
        other.due("setConsuls(2, 4, 5)", 1);
    }

    private static void fullLife() {
        check.promise(1, "an object is used for at most 512 calls");
        Run x = new Run(check);
        for (int call = 1; call < 512; call += 2) {
            x.due("setConsuls(" + call + ", 1, 2)", 1);
            x.due("strikeConsuls(" + call + ")", 0);
        }
        x = new Run(check);
        for (int call = 1; call < 512; call++) {
            x.due("setMarketDay(" + call + ")", (call - 1) % 8);
        }
        x.yes("isMarket(7)");
    }

    private static void days() {
        check.promise(2, "returns how many days there are: 1095750");
        Run x = Wrong.busy(check);
        x.due("days()", 1095750);
        new Run(check).due("days()", 1095750);
        check.promise(2, "the numbers being less than that");
        x.due("yearOf(1095749)", 3000);
        x.noIndex("yearOf(1095750)");
        x.due("number(3000, 12, 31)", 1095749);
    }

    /** A date's number by both ways. */
    private static void date(Run x, String sentence, int year, int month, int day, int due) {
        String date = "(" + year + ", " + month + ", " + day + ")";
        check.promise(3, sentence);
        x.due("number" + date, due);
        check.promise(4, "returns the same as number(); " + sentence);
        x.due("numberByCounting" + date, due);
    }

    private static void noDate(Run x, String sentence, int year, int month, int day) {
        String date = "(" + year + ", " + month + ", " + day + ")";
        check.promise(3, sentence);
        x.noIndex("number" + date);
        check.promise(4, sentence);
        x.noIndex("numberByCounting" + date);
    }

    private static void firstAndLastDay() {
        Run x = new Run(check);
        date(x, "January 1 of the year 1 has the number 0", 1, 1, 1, 0);
        date(x, "the last day of the last year", 3000, 12, 31, 1095749);
        date(x, "the first day of the last year", 3000, 1, 1, 1095384);
        date(x, "the year 4 is a leap year", 4, 2, 29, 1154);
        date(x, "the year 100 is a leap year", 100, 2, 29, 36218);
        date(x, "the year 1900 is a leap year", 1900, 2, 29, 693668);
        date(x, "the year 2000 is a leap year", 2000, 2, 29, 730193);
        date(x, "the year 3000 is a leap year", 3000, 2, 29, 1095443);
    }

    /** The first and the last day of each month, and the days that there are not on either side. */
    private static void monthsOfYears() {
        int[][] yearsWithFirsts = {
            {1, 0}, {2, 365}, {3, 730}, {4, 1095}, {5, 1461}, {100, 36159}, {1900, 693609},
            {2999, 1095019}, {3000, 1095384},
        };
        for (int[] pair : yearsWithFirsts) {
            int year = pair[0];
            int number = pair[1];
            for (int month = 1; month <= 12; month++) {
                Run x = new Run(check);
                int length = lengthOf(year, month);
                date(x, "the first day of a month", year, month, 1, number);
                date(x, "the last day of a month", year, month, length, number + length - 1);
                noDate(x, "no such day behind a month's last one", year, month, length + 1);
                noDate(x, "no such day ahead of a month's first one", year, month, 0);
                number += length;
            }
        }
    }

    private static int lengthOf(int year, int month) {
        return month == 2 && year % 4 == 0 ? 29 : LENGTHS[month - 1];
    }

    private static void eachNextDay() {
        for (int year : new int[] {1, 4}) {
            int number = year == 1 ? 0 : 1095;
            for (int month = 1; month <= 12; month++) {
                Run x = new Run(check);
                for (int day = 1; day <= lengthOf(year, month); day++) {
                    date(x, "each next day has 1 more", year, month, day, number);
                    number++;
                }
            }
        }
    }

    private static void wrongYears() {
        for (int year : Wrong.YEARS) {
            Run x = Wrong.busy(check);
            noDate(x, "no such year", year, 1, 1);
            noDate(x, "no such year", year, 2, 29);
            noDate(x, "no such year, month or day", year, 13, 32);
        }
    }

    private static void wrongMonths() {
        for (int month : Wrong.MONTHS) {
            Run x = Wrong.busy(check);
            noDate(x, "no such month", 1, month, 1);
            noDate(x, "no such month", 4, month, 1);
            noDate(x, "no such month", 3000, month, 31);
            noDate(x, "no such month or day", 4, month, 0);
        }
    }

    private static void wrongDays() {
        Run x = Wrong.busy(check);
        noDate(x, "February 29 of a common year", 3, 2, 29);
        noDate(x, "February 30 of a leap year", 4, 2, 30);
        noDate(x, "behind the last day of all", 3000, 12, 32);
        noDate(x, "ahead of the first day of all", 1, 1, 0);
        for (int day : new int[] {-1, Integer.MIN_VALUE, Integer.MAX_VALUE}) {
            noDate(x, "no such day", 4, 1, day);
        }
    }

    private static void partsOfNumbers() {
        Run x = new Run(check);
        parts(x, "the day 0", 0, 1, 1, 1);
        parts(x, "the last day of a month", 30, 1, 1, 31);
        parts(x, "the first day of a month", 31, 1, 2, 1);
        parts(x, "the last day of February", 58, 1, 2, 28);
        parts(x, "behind February", 59, 1, 3, 1);
        parts(x, "the last day of a year", 364, 1, 12, 31);
        parts(x, "the first day of a year", 365, 2, 1, 1);
        parts(x, "the first day of a leap year", 1095, 4, 1, 1);
        parts(x, "ahead of the doubled day", 1148, 4, 2, 23);
        parts(x, "the doubled day", 1149, 4, 2, 24);
        parts(x, "behind the doubled day", 1150, 4, 2, 25);
        parts(x, "February 28 of a leap year", 1153, 4, 2, 28);
        parts(x, "February 29", 1154, 4, 2, 29);
        parts(x, "behind February 29", 1155, 4, 3, 1);
        parts(x, "the last day but one of a leap year", 1459, 4, 12, 30);
        parts(x, "the last day of a leap year", 1460, 4, 12, 31);
        parts(x, "the first day behind a leap year", 1461, 5, 1, 1);
        parts(x, "February 29 of the year 100", 36218, 100, 2, 29);
        parts(x, "the last day of the year 2999", 1095383, 2999, 12, 31);
        parts(x, "the first day of the year 3000", 1095384, 3000, 1, 1);
        parts(x, "the last day", 1095749, 3000, 12, 31);
    }

    private static void parts(Run x, String sentence, int number, int year, int month, int day) {
        check.promise(5, sentence);
        x.due("yearOf(" + number + ")", year);
        check.promise(6, sentence);
        x.due("monthOf(" + number + ")", month);
        check.promise(7, sentence);
        x.due("dayOf(" + number + ")", day);
    }

    private static void weekdays() {
        Run x = new Run(check);
        check.promise(8, "the day 0 is a Saturday");
        x.due("weekdayOf(0)", 6);
        check.promise(8, "0 (Sunday) to 6 (Saturday)");
        for (int number = 1; number <= 14; number++) {
            x.due("weekdayOf(" + number + ")", (number - 1) % 7);
        }
        check.promise(8, "the doubled day and the leap day have weekdays as others do");
        x.due("weekdayOf(1148)", 6);
        x.due("weekdayOf(1149)", 0);
        x.due("weekdayOf(1150)", 1);
        x.due("weekdayOf(1154)", 5);
        x.due("weekdayOf(1155)", 6);
        check.promise(8, "the last day");
        x.due("weekdayOf(1095749)", 3);
        check.promise(8, "whatever the market day is");
        Wrong.busy(check).due("weekdayOf(0)", 6);
    }
}
