/** Promises 1 to 8: a new object, and days by year, month and day. */
public final class DaysTest {
    private static final Check check = new Check();
    private static final int[] LENGTHS = {31, 28, 31, 30, 31, 30, 31, 31, 30, 31, 30, 31};

    public static void main(String[] args) {
        newObject();
        numbers();
        wrongDates();
        partsOfNumbers();
        weekdays();
        wrongNumbers();
        check.end();
    }

    private static void newObject() {
        RomanCalendar x = new RomanCalendar();
        check.equal("consulsOf(1)", x.consulsOf(1), -1);
        check.equal("consulsOf(3000)", x.consulsOf(3000), -1);
        check.equal("afterConsuls(3000)", x.afterConsuls(3000), -1);
        check.noState("strikeConsuls(1)", () -> x.strikeConsuls(1));
        check.yes("isMarket(0)", x.isMarket(0));
        check.equal("setMarketDay(5)", x.setMarketDay(5), 0);
        check.equal("setConsuls(1, 2, 3)", x.setConsuls(1, 2, 3), 1);
        // What one object was told, another one does not know.
        RomanCalendar y = new RomanCalendar();
        check.yes("another's isMarket(0)", y.isMarket(0));
        check.equal("another's consulsOf(1)", y.consulsOf(1), -1);
        check.equal("days()", x.days(), 1095750);
    }

    private static void numbers() {
        RomanCalendar x = new RomanCalendar();
        number(x, 1, 1, 1, 0);
        number(x, 1, 1, 2, 1);
        number(x, 1, 2, 1, 31);
        number(x, 1, 3, 1, 59);
        number(x, 1, 12, 31, 364);
        number(x, 2, 1, 1, 365);
        number(x, 4, 2, 28, 1153);
        number(x, 4, 2, 29, 1154);
        number(x, 4, 3, 1, 1155);
        number(x, 4, 12, 31, 1460);
        number(x, 5, 1, 1, 1461);
        number(x, 100, 2, 29, 36218);
        number(x, 2000, 1, 1, 730134);
        number(x, 3000, 12, 31, 1095749);
        for (int month = 1; month <= 12; month++) {
            int length = LENGTHS[month - 1];
            check.equal("the length of " + month,
                    x.number(3, month, length) - x.number(3, month, 1), length - 1);
        }
    }

    private static void number(RomanCalendar x, int year, int month, int day, int due) {
        String date = "(" + year + ", " + month + ", " + day + ")";
        check.equal("number" + date, x.number(year, month, day), due);
        check.equal("numberByCounting" + date, x.numberByCounting(year, month, day), due);
    }

    private static void wrongDates() {
        RomanCalendar x = new RomanCalendar();
        for (int year : Check.wrongYears()) {
            noDate(x, year, 1, 1);
        }
        for (int month : Check.wrongMonths()) {
            noDate(x, 4, month, 1);
        }
        for (int month = 1; month <= 12; month++) {
            noDate(x, 3, month, LENGTHS[month - 1] + 1);
            noDate(x, 3, month, 0);
        }
        noDate(x, 3, 2, 29);
        noDate(x, 4, 2, 30);
        noDate(x, 4, 1, -1);
        noDate(x, 4, 1, Integer.MIN_VALUE);
        noDate(x, 4, 1, Integer.MAX_VALUE);
    }

    private static void noDate(RomanCalendar x, int year, int month, int day) {
        String date = "(" + year + ", " + month + ", " + day + ")";
        check.noIndex("number" + date, () -> x.number(year, month, day));
        check.noIndex("numberByCounting" + date, () -> x.numberByCounting(year, month, day));
    }

    private static void partsOfNumbers() {
        RomanCalendar x = new RomanCalendar();
        parts(x, 0, 1, 1, 1);
        parts(x, 30, 1, 1, 31);
        parts(x, 31, 1, 2, 1);
        parts(x, 58, 1, 2, 28);
        parts(x, 59, 1, 3, 1);
        parts(x, 364, 1, 12, 31);
        parts(x, 365, 2, 1, 1);
        parts(x, 1095, 4, 1, 1);
        parts(x, 1149, 4, 2, 24);
        parts(x, 1150, 4, 2, 25);
        parts(x, 1154, 4, 2, 29);
        parts(x, 1155, 4, 3, 1);
        parts(x, 1459, 4, 12, 30);
        parts(x, 1460, 4, 12, 31);
        parts(x, 1461, 5, 1, 1);
        parts(x, 730134, 2000, 1, 1);
        parts(x, 1095749, 3000, 12, 31);
    }

    private static void parts(RomanCalendar x, int number, int year, int month, int day) {
        check.equal("yearOf(" + number + ")", x.yearOf(number), year);
        check.equal("monthOf(" + number + ")", x.monthOf(number), month);
        check.equal("dayOf(" + number + ")", x.dayOf(number), day);
    }

    private static void weekdays() {
        RomanCalendar x = new RomanCalendar();
        check.equal("weekdayOf(0)", x.weekdayOf(0), 6);
        check.equal("weekdayOf(1)", x.weekdayOf(1), 0);
        check.equal("weekdayOf(7)", x.weekdayOf(7), 6);
        check.equal("weekdayOf(1149)", x.weekdayOf(1149), 0);
        check.equal("weekdayOf(1150)", x.weekdayOf(1150), 1);
        check.equal("weekdayOf(1095749)", x.weekdayOf(1095749), 3);
    }

    private static void wrongNumbers() {
        RomanCalendar x = new RomanCalendar();
        for (int number : Check.wrongNumbers()) {
            check.noIndex("yearOf(" + number + ")", () -> x.yearOf(number));
            check.noIndex("monthOf(" + number + ")", () -> x.monthOf(number));
            check.noIndex("dayOf(" + number + ")", () -> x.dayOf(number));
            check.noIndex("weekdayOf(" + number + ")", () -> x.weekdayOf(number));
        }
    }
}
