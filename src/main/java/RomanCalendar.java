/**
 * The Roman calendar in its Julian form: days, kalends, nones and ides, the doubled day,
 * the law's days, letters, market days, consuls, and characters of days.
 *
 * <p>Nearly all of it is computed from a day's number, or from its place in the year (which
 * reads as a day of a year without leap day). Only consuls, characters and the market day
 * are kept.
 */
public final class RomanCalendar {
    public static final int NONE = -1;
    public static final int KALENDS = 0, NONES = 1, IDES = 2;
    public static final int FASTUS = 0, NEFASTUS = 1, COMITIALIS = 2, ENDOTERCISUS = 3;

    private static final int LAST_YEAR = 3000;
    private static final int MONTHS = 12;
    private static final int FEBRUARY = 2;
    private static final int MARCH = 3;
    private static final int ALL_DAYS = 1095750;
    private static final int PLACES = 365;
    private static final int FOUR_YEARS = 1461;

    /** The number of the first doubled day, February 24 of the year 4. */
    private static final int FIRST_DOUBLED = 1149;
    private static final int DOUBLED_PLACE = 55;
    private static final int DOUBLED_COUNT = 6;

    private static final int NONES_TO_IDES = 8;
    private static final int MARKET_CYCLE = 8;
    private static final int WEEK = 7;
    private static final int FIRST_SUNDAY = 1;
    private static final int LONGEST_TERM = 100000;

    private static final int MOST_CONSUL_YEARS = 60;
    private static final int LAST_CONSUL = 999;
    private static final int PAIR_BASE = 1000;

    /** Stands for the year in a slot of consulYears that holds none. */
    private static final int FREE = 0;

    private final int[] characters = new int[PLACES];
    private final int[] consulYears = new int[MOST_CONSUL_YEARS];
    private final int[] consulPairs = new int[MOST_CONSUL_YEARS];
    private int marketRemainder;

    public RomanCalendar() {
        marketRemainder = 0;
        for (int index = 0; index < PLACES; index++) {
            characters[index] = COMITIALIS;
        }
        for (int month = 1; month <= MONTHS; month++) {
            writeCharacter(placeOfAnchor(month, KALENDS), FASTUS);
            writeCharacter(placeOfAnchor(month, NONES), FASTUS);
            writeCharacter(placeOfAnchor(month, IDES), FASTUS);
        }
    }

    // ---- days by year, month and day

    public int days() {
        return ALL_DAYS;
    }

    public int number(int year, int month, int day) throws IndexOutOfBoundsException {
        checkDate(year, month, day);
        return firstDayOf(year) + daysBefore(year, month) + day - 1;
    }

    public int numberByCounting(int year, int month, int day) throws IndexOutOfBoundsException {
        checkDate(year, month, day);
        int counted = firstDayOf(year);
        for (int passedMonth = 1; passedMonth < month; passedMonth++) {
            int length = lengthOf(year, passedMonth);
            for (int passedDay = 1; passedDay <= length; passedDay++) {
                counted++;
            }
        }
        for (int passedDay = 1; passedDay < day; passedDay++) {
            counted++;
        }
        return counted;
    }

    public int yearOf(int number) throws IndexOutOfBoundsException {
        checkNumber(number);
        return yearAt(number);
    }

    public int monthOf(int number) throws IndexOutOfBoundsException {
        checkNumber(number);
        return monthOfPlace(placeAt(number));
    }

    public int dayOf(int number) throws IndexOutOfBoundsException {
        checkNumber(number);
        int year = yearAt(number);
        int month = monthOfPlace(placeAt(number));
        return number - firstDayOf(year) - daysBefore(year, month) + 1;
    }

    public int weekdayOf(int number) throws IndexOutOfBoundsException {
        checkNumber(number);
        return (number + WEEK - FIRST_SUNDAY) % WEEK;
    }

    // ---- days by kalends, nones and ides

    public int anchorOf(int number) throws IndexOutOfBoundsException {
        checkNumber(number);
        return anchorOfPlace(placeAt(number));
    }

    public int anchorMonthOf(int number) throws IndexOutOfBoundsException {
        checkNumber(number);
        int place = placeAt(number);
        int month = monthOfPlace(place);
        return isBehindIdes(place) ? month % MONTHS + 1 : month;
    }

    public int countOf(int number) throws IndexOutOfBoundsException {
        checkNumber(number);
        int place = placeAt(number);
        int month = monthOfPlace(place);
        int anchorPlace = isBehindIdes(place)
                ? placeOfAnchor(month + 1, KALENDS)
                : placeOfAnchor(month, anchorOfPlace(place));
        return anchorPlace - place + 1;
    }

    public boolean isDoubled(int number) throws IndexOutOfBoundsException {
        checkNumber(number);
        return number % FOUR_YEARS == FIRST_DOUBLED;
    }

    public int fromCount(int year, int month, int anchor, int count, boolean isDoubled)
            throws IndexOutOfBoundsException, IllegalArgumentException, IllegalStateException {
        checkYear(year);
        checkMonth(month);
        checkAnchor(anchor);
        if (count < 1) {
            throw new IllegalArgumentException("count is below 1");
        }
        if (count > greatestCountTo(month, anchor)) {
            throw new IllegalStateException("no day has this count");
        }
        if (isDoubled && !isToldAsDoubled(year, month, anchor, count)) {
            throw new IllegalStateException("no doubled day is told so");
        }
        int place = placeOfAnchor(month, anchor) - count + 1;
        if (place < 1) {
            // Behind the ides of December: the kalends are those of the next year.
            place += PLACES;
        }
        int last = lastDayOfPlace(year, place);
        return isDoubled ? last - 1 : last;
    }

    public int greatestCount(int year, int month, int anchor)
            throws IndexOutOfBoundsException, IllegalArgumentException {
        checkYear(year);
        checkMonth(month);
        checkAnchor(anchor);
        return greatestCountTo(month, anchor);
    }

    // ---- the law's days

    public int lawNumber(int number) throws IndexOutOfBoundsException {
        checkNumber(number);
        return lawNumberAt(number);
    }

    public int termEnd(int number, int days)
            throws IndexOutOfBoundsException, IllegalArgumentException, IllegalStateException {
        checkNumber(number);
        if (days < 0 || days > LONGEST_TERM) {
            throw new IllegalArgumentException("days is out of range");
        }
        int end = lawNumberAt(number) + days;
        if (end > lawNumberAt(ALL_DAYS - 1)) {
            throw new IllegalStateException("the term ends behind the last day");
        }
        return lastDayOfPlace(end / PLACES + 1, end % PLACES + 1);
    }

    public int lawDays(int from, int to) throws IndexOutOfBoundsException {
        checkNumber(from);
        checkNumber(to);
        return lawNumberAt(to) - lawNumberAt(from);
    }

    public int placeOf(int number) throws IndexOutOfBoundsException {
        checkNumber(number);
        return placeAt(number);
    }

    // ---- letters, markets, Sundays

    public int letterOfEight(int number) throws IndexOutOfBoundsException {
        checkNumber(number);
        return eightLetterAt(number);
    }

    public int letterOfSeven(int number) throws IndexOutOfBoundsException {
        checkNumber(number);
        return sevenLetterAt(number);
    }

    public int setMarketDay(int number) throws IndexOutOfBoundsException {
        checkNumber(number);
        int before = marketRemainder;
        marketRemainder = number % MARKET_CYCLE;
        return before;
    }

    public boolean isMarket(int number) throws IndexOutOfBoundsException {
        checkNumber(number);
        return isMarketAt(number);
    }

    public int marketLetters(int year) throws IndexOutOfBoundsException {
        checkYear(year);
        int first = firstDayOf(year);
        int last = lastDayOf(year);
        int firstMarket = first + Math.floorMod(marketRemainder - first, MARKET_CYCLE);
        int lastMarket = last - Math.floorMod(last - marketRemainder, MARKET_CYCLE);
        return 10 * eightLetterAt(firstMarket) + eightLetterAt(lastMarket);
    }

    public int sundayLetters(int year) throws IndexOutOfBoundsException {
        checkYear(year);
        int first = firstDayOf(year);
        int last = lastDayOf(year);
        int firstSunday = first + Math.floorMod(FIRST_SUNDAY - first, WEEK);
        int lastSunday = last - Math.floorMod(last - FIRST_SUNDAY, WEEK);
        return 10 * sevenLetterAt(firstSunday) + sevenLetterAt(lastSunday);
    }

    // ---- consuls

    public int setConsuls(int year, int first, int second)
            throws IndexOutOfBoundsException, IllegalArgumentException, IllegalStateException {
        checkYear(year);
        if (!isConsul(first) || !isConsul(second) || first == second) {
            throw new IllegalArgumentException("these can't be two consuls");
        }
        int slot = slotOf(year);
        if (!isSlot(slot)) {
            slot = slotOf(FREE);
        }
        if (!isSlot(slot)) {
            throw new IllegalStateException("too many other years have consuls");
        }
        consulYears[slot] = year;
        consulPairs[slot] = PAIR_BASE * first + second;
        return countConsulYears();
    }

    public int strikeConsuls(int year) throws IndexOutOfBoundsException, IllegalStateException {
        checkYear(year);
        int slot = slotOf(year);
        if (!isSlot(slot)) {
            throw new IllegalStateException("the year has no consuls");
        }
        consulYears[slot] = FREE;
        return countConsulYears();
    }

    public int consulsOf(int year) throws IndexOutOfBoundsException {
        checkYear(year);
        int slot = slotOf(year);
        return isSlot(slot) ? consulPairs[slot] : NONE;
    }

    public int afterConsuls(int year) throws IndexOutOfBoundsException {
        checkYear(year);
        int latest = FREE;
        for (int slot = 0; slot < MOST_CONSUL_YEARS; slot++) {
            int candidate = consulYears[slot];
            if (candidate <= year && candidate > latest) {
                latest = candidate;
            }
        }
        return latest == FREE ? NONE : year - latest;
    }

    public int yearOfConsuls(int first, int second, int time) throws IllegalArgumentException {
        if (time < 1) {
            throw new IllegalArgumentException("time is below 1");
        }
        if (time > MOST_CONSUL_YEARS) {
            return NONE;
        }
        int year = nextYearOfPair(first, second, 0);
        for (int found = 1; found < time && year != NONE; found++) {
            year = nextYearOfPair(first, second, year);
        }
        return year;
    }

    // ---- characters

    public int setCharacter(int place, int character)
            throws IndexOutOfBoundsException, IllegalArgumentException {
        if (!isPlace(place)) {
            throw new IndexOutOfBoundsException("no such place");
        }
        if (character < FASTUS || character > ENDOTERCISUS) {
            throw new IllegalArgumentException("no such character");
        }
        int before = readCharacter(place);
        writeCharacter(place, character);
        return before;
    }

    public int characterOf(int number) throws IndexOutOfBoundsException {
        checkNumber(number);
        return readCharacter(placeAt(number));
    }

    public boolean canVote(int number) throws IndexOutOfBoundsException {
        checkNumber(number);
        return isVotingDay(number);
    }

    public int nextCourt(int number) throws IndexOutOfBoundsException {
        checkNumber(number);
        // So many days hold every place of the year, from whichever day they start.
        int end = Math.min(number + PLACES + 1, ALL_DAYS);
        for (int day = number; day < end; day++) {
            int character = readCharacter(placeAt(day));
            if (character == FASTUS || character == COMITIALIS) {
                return day;
            }
        }
        return NONE;
    }

    public int votes(int year) throws IndexOutOfBoundsException {
        checkYear(year);
        int last = lastDayOf(year);
        int count = 0;
        for (int day = firstDayOf(year); day <= last; day++) {
            if (isVotingDay(day)) {
                count++;
            }
        }
        return count;
    }

    // ---- what arguments must be

    private static void checkYear(int year) {
        if (year < 1 || year > LAST_YEAR) {
            throw new IndexOutOfBoundsException("no such year");
        }
    }

    private static void checkMonth(int month) {
        if (month < 1 || month > MONTHS) {
            throw new IndexOutOfBoundsException("no such month");
        }
    }

    private static void checkDate(int year, int month, int day) {
        checkYear(year);
        checkMonth(month);
        if (day < 1 || day > lengthOf(year, month)) {
            throw new IndexOutOfBoundsException("no such day");
        }
    }

    private static void checkNumber(int number) {
        if (number < 0 || number >= ALL_DAYS) {
            throw new IndexOutOfBoundsException("no such day number");
        }
    }

    private static void checkAnchor(int anchor) {
        if (anchor < KALENDS || anchor > IDES) {
            throw new IllegalArgumentException("no such anchor");
        }
    }

    private static boolean isPlace(int place) {
        return place >= 1 && place <= PLACES;
    }

    private static boolean isConsul(int consul) {
        return consul >= 1 && consul <= LAST_CONSUL;
    }

    // ---- years and months

    private static boolean isLeap(int year) {
        return year % 4 == 0;
    }

    private static int firstDayOf(int year) {
        return (year - 1) * PLACES + (year - 1) / 4;
    }

    private static int lastDayOf(int year) {
        return firstDayOf(year + 1) - 1;
    }

    private static int yearAt(int number) {
        // The day 1460 of four years is the 366th of the fourth year, not of a fifth one.
        int passedInFour = Math.min(number % FOUR_YEARS / PLACES, 3);
        return number / FOUR_YEARS * 4 + passedInFour + 1;
    }

    private static int commonLengthOf(int month) {
        switch (month) {
            case FEBRUARY:
                return 28;
            case 4:
            case 6:
            case 9:
            case 11:
                return 30;
            default:
                return 31;
        }
    }

    private static int lengthOf(int year, int month) {
        boolean hasLeapDay = month == FEBRUARY && isLeap(year);
        return hasLeapDay ? commonLengthOf(month) + 1 : commonLengthOf(month);
    }

    private static int commonDaysBefore(int month) {
        int sum = 0;
        for (int passed = 1; passed < month; passed++) {
            sum += commonLengthOf(passed);
        }
        return sum;
    }

    private static int daysBefore(int year, int month) {
        boolean hasLeapDay = month > FEBRUARY && isLeap(year);
        return hasLeapDay ? commonDaysBefore(month) + 1 : commonDaysBefore(month);
    }

    // ---- the law's days and places in the year

    /** Doubled days lie four years apart, from the first one on through the whole calendar. */
    private static int doubledDaysBefore(int number) {
        return (number + FOUR_YEARS - 1 - FIRST_DOUBLED) / FOUR_YEARS;
    }

    private static int lawNumberAt(int number) {
        return number - doubledDaysBefore(number);
    }

    /** For the law each year has as many days as a year has places. */
    private static int placeAt(int number) {
        return lawNumberAt(number) % PLACES + 1;
    }

    /** Of the two days with the doubled place in a leap year this is the second one. */
    private static int lastDayOfPlace(int year, int place) {
        boolean isBehindDoubled = isLeap(year) && place >= DOUBLED_PLACE;
        return firstDayOf(year) + place - 1 + (isBehindDoubled ? 1 : 0);
    }

    private static int monthOfPlace(int place) {
        int month = 1;
        int end = commonLengthOf(month);
        while (month < MONTHS && place > end) {
            month++;
            end += commonLengthOf(month);
        }
        return month;
    }

    // ---- anchors

    private static int nonesDayOf(int month) {
        switch (month) {
            case MARCH:
            case 5:
            case 7:
            case 10:
                return 7;
            default:
                return 5;
        }
    }

    /** The month may be 13 for its kalends, which are the next year's. */
    private static int placeOfAnchor(int month, int anchor) {
        int before = commonDaysBefore(month);
        if (anchor == KALENDS) {
            return before + 1;
        }
        int nones = before + nonesDayOf(month);
        return anchor == NONES ? nones : nones + NONES_TO_IDES;
    }

    private static boolean isBehindIdes(int place) {
        return place > placeOfAnchor(monthOfPlace(place), IDES);
    }

    private static int anchorOfPlace(int place) {
        int month = monthOfPlace(place);
        if (place == placeOfAnchor(month, KALENDS) || isBehindIdes(place)) {
            return KALENDS;
        }
        return place <= placeOfAnchor(month, NONES) ? NONES : IDES;
    }

    /** The leap day changes no greatest count, as the doubled day has that of the next day. */
    private static int greatestCountTo(int month, int anchor) {
        if (anchor == IDES) {
            return NONES_TO_IDES;
        }
        if (anchor == NONES) {
            return nonesDayOf(month) - 1;
        }
        int monthBefore = month == 1 ? MONTHS : month - 1;
        int idesDay = nonesDayOf(monthBefore) + NONES_TO_IDES;
        return commonLengthOf(monthBefore) - idesDay + 1;
    }

    private static boolean isToldAsDoubled(int year, int month, int anchor, int count) {
        return isLeap(year) && month == MARCH && anchor == KALENDS && count == DOUBLED_COUNT;
    }

    // ---- letters and market days

    private static int eightLetterAt(int number) {
        return (placeAt(number) - 1) % MARKET_CYCLE;
    }

    private static int sevenLetterAt(int number) {
        return (placeAt(number) - 1) % WEEK;
    }

    private boolean isMarketAt(int number) {
        return number % MARKET_CYCLE == marketRemainder;
    }

    // ---- the slots of consuls, in no order

    private static boolean isSlot(int slot) {
        return slot >= 0 && slot < MOST_CONSUL_YEARS;
    }

    /** Answers the slot that holds this year, or a free one for FREE; NONE if there is none. */
    private int slotOf(int year) {
        for (int slot = 0; slot < MOST_CONSUL_YEARS; slot++) {
            if (consulYears[slot] == year) {
                return slot;
            }
        }
        return NONE;
    }

    private int countConsulYears() {
        int count = 0;
        for (int slot = 0; slot < MOST_CONSUL_YEARS; slot++) {
            if (consulYears[slot] != FREE) {
                count++;
            }
        }
        return count;
    }

    /** Answers the first year behind another one that these two have; NONE if there is none. */
    private int nextYearOfPair(int first, int second, int behind) {
        int next = NONE;
        for (int slot = 0; slot < MOST_CONSUL_YEARS; slot++) {
            int year = consulYears[slot];
            boolean isEarlier = next == NONE || year < next;
            if (year > behind && isEarlier && isPair(consulPairs[slot], first, second)) {
                next = year;
            }
        }
        return next;
    }

    /** Takes the pair apart, as two numbers out of range could give the same one together. */
    private static boolean isPair(int pair, int first, int second) {
        int one = pair / PAIR_BASE;
        int other = pair % PAIR_BASE;
        return one == first && other == second || one == second && other == first;
    }

    // ---- characters of places

    private int readCharacter(int place) {
        return isPlace(place) ? characters[place - 1] : NONE;
    }

    private void writeCharacter(int place, int character) {
        if (isPlace(place)) {
            characters[place - 1] = character;
        }
    }

    private boolean isVotingDay(int number) {
        return readCharacter(placeAt(number)) == COMITIALIS && !isMarketAt(number);
    }
}
