/**
 * Every day of the 3000 years, written down by walking from one to the next and, for the
 * counts, from each anchor back: the document's words with no formula in between.
 */
final class Almanac {
    static final int DAYS = 1095750;

    final int[] years = new int[DAYS];
    final int[] months = new int[DAYS];
    final int[] monthDays = new int[DAYS];
    final int[] weekdays = new int[DAYS];
    final int[] laws = new int[DAYS];
    final int[] places = new int[DAYS];
    final int[] anchors = new int[DAYS];
    final int[] anchorMonths = new int[DAYS];
    final int[] counts = new int[DAYS];
    /** The numbers of the first days of the years 1 to 3001. */
    final int[] firsts = new int[3002];

    Almanac() {
        walkOn();
        walkBack();
    }

    private void walkOn() {
        int number = 0;
        int weekday = 6;
        int law = 0;
        for (int year = 1; year <= 3000; year++) {
            firsts[year] = number;
            int place = 1;
            for (int month = 1; month <= 12; month++) {
                for (int day = 1; day <= lengthOf(year, month); day++) {
                    years[number] = year;
                    months[number] = month;
                    monthDays[number] = day;
                    weekdays[number] = weekday;
                    laws[number] = law;
                    places[number] = place;
                    weekday = weekday == 6 ? 0 : weekday + 1;
                    if (!isDoubled(number)) {
                        law++;
                        place++;
                    }
                    number++;
                }
            }
        }
        firsts[3001] = number;
    }

    private void walkBack() {
        // Ahead of the last day stand the kalends of the January behind it.
        int anchor = 0;
        int anchorMonth = 1;
        int count = 1;
        for (int number = DAYS - 1; number >= 0; number--) {
            // A doubled day has the count of the day behind it.
            if (!isDoubled(number)) {
                count++;
            }
            int own = anchorOn(months[number], monthDays[number]);
            if (own >= 0) {
                anchor = own;
                anchorMonth = months[number];
                count = 1;
            }
            anchors[number] = anchor;
            anchorMonths[number] = anchorMonth;
            counts[number] = count;
        }
    }

    boolean isDoubled(int number) {
        return years[number] % 4 == 0 && months[number] == 2 && monthDays[number] == 24;
    }

    /** The anchor that is this day of the month; -1 if there is none. */
    static int anchorOn(int month, int day) {
        int nones = month == 3 || month == 5 || month == 7 || month == 10 ? 7 : 5;
        return day == 1 ? 0 : day == nones ? 1 : day == nones + 8 ? 2 : -1;
    }

    static int lengthOf(int year, int month) {
        if (month == 2) {
            return year % 4 == 0 ? 29 : 28;
        }
        return month == 4 || month == 6 || month == 9 || month == 11 ? 30 : 31;
    }
}
