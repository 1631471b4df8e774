import java.util.Map;
import java.util.TreeMap;

/** The document's methods once more, by looking days up in the almanac one after the other. */
public final class NaiveCalendar {
    private static final Almanac ALL = new Almanac();

    private final TreeMap<Integer, int[]> consuls = new TreeMap<>();
    private final int[] characters = new int[366];
    private int market = 0;

    public NaiveCalendar() {
        for (int number = 0; number < 365; number++) {
            boolean isAnchor = Almanac.anchorOn(ALL.months[number], ALL.monthDays[number]) >= 0;
            characters[number + 1] = isAnchor ? 0 : 2;
        }
    }

    public int days() {
        return Almanac.DAYS;
    }

    public int number(int year, int month, int day) {
        needYear(year);
        needMonth(month);
        for (int number = ALL.firsts[year]; number < ALL.firsts[year + 1]; number++) {
            if (ALL.months[number] == month && ALL.monthDays[number] == day) {
                return number;
            }
        }
        throw new IndexOutOfBoundsException();
    }

    public int numberByCounting(int year, int month, int day) {
        return number(year, month, day);
    }

    public int yearOf(int number) {
        needNumber(number);
        return ALL.years[number];
    }

    public int monthOf(int number) {
        needNumber(number);
        return ALL.months[number];
    }

    public int dayOf(int number) {
        needNumber(number);
        return ALL.monthDays[number];
    }

    public int weekdayOf(int number) {
        needNumber(number);
        return ALL.weekdays[number];
    }

    public int anchorOf(int number) {
        needNumber(number);
        return ALL.anchors[number];
    }

    public int anchorMonthOf(int number) {
        needNumber(number);
        return ALL.anchorMonths[number];
    }

    public int countOf(int number) {
        needNumber(number);
        return ALL.counts[number];
    }

    public boolean isDoubled(int number) {
        needNumber(number);
        return ALL.isDoubled(number);
    }

    public int fromCount(int year, int month, int anchor, int count, boolean isDoubled) {
        needYear(year);
        needMonth(month);
        if (anchor < 0 || anchor > 2 || count < 1) {
            throw new IllegalArgumentException();
        }
        for (int number = ALL.firsts[year]; number < ALL.firsts[year + 1]; number++) {
            if (ALL.anchorMonths[number] == month && ALL.anchors[number] == anchor
                    && ALL.counts[number] == count && ALL.isDoubled(number) == isDoubled) {
                return number;
            }
        }
        throw new IllegalStateException();
    }

    public int greatestCount(int year, int month, int anchor) {
        needYear(year);
        needMonth(month);
        if (anchor < 0 || anchor > 2) {
            throw new IllegalArgumentException();
        }
        int greatest = 0;
        for (int number = ALL.firsts[year]; number < ALL.firsts[year + 1]; number++) {
            if (ALL.anchorMonths[number] == month && ALL.anchors[number] == anchor) {
                greatest = Math.max(greatest, ALL.counts[number]);
            }
        }
        return greatest;
    }

    public int lawNumber(int number) {
        needNumber(number);
        return ALL.laws[number];
    }

    public int termEnd(int number, int days) {
        needNumber(number);
        if (days < 0 || days > 100000) {
            throw new IllegalArgumentException();
        }
        int due = ALL.laws[number] + days;
        int found = -1;
        for (int day = number; day < Almanac.DAYS && ALL.laws[day] <= due; day++) {
            found = ALL.laws[day] == due ? day : found;
        }
        // Of the day asked for the second part may be behind it, never ahead of it.
        if (found < 0) {
            throw new IllegalStateException();
        }
        return found;
    }

    public int lawDays(int from, int to) {
        needNumber(from);
        needNumber(to);
        return ALL.laws[to] - ALL.laws[from];
    }

    public int placeOf(int number) {
        needNumber(number);
        return ALL.places[number];
    }

    public int letterOfEight(int number) {
        needNumber(number);
        return (ALL.places[number] - 1) % 8;
    }

    public int letterOfSeven(int number) {
        needNumber(number);
        return (ALL.places[number] - 1) % 7;
    }

    public int setMarketDay(int number) {
        needNumber(number);
        int before = market % 8;
        market = number;
        return before;
    }

    public boolean isMarket(int number) {
        needNumber(number);
        return number % 8 == market % 8;
    }

    public int marketLetters(int year) {
        needYear(year);
        int first = -1;
        int last = -1;
        for (int number = ALL.firsts[year]; number < ALL.firsts[year + 1]; number++) {
            if (isMarket(number)) {
                last = letterOfEight(number);
                first = first < 0 ? last : first;
            }
        }
        return 10 * first + last;
    }

    public int sundayLetters(int year) {
        needYear(year);
        int first = -1;
        int last = -1;
        for (int number = ALL.firsts[year]; number < ALL.firsts[year + 1]; number++) {
            if (ALL.weekdays[number] == 0) {
                last = letterOfSeven(number);
                first = first < 0 ? last : first;
            }
        }
        return 10 * first + last;
    }

    public int setConsuls(int year, int first, int second) {
        needYear(year);
        if (first < 1 || first > 999 || second < 1 || second > 999 || first == second) {
            throw new IllegalArgumentException();
        }
        if (!consuls.containsKey(year) && consuls.size() == 60) {
            throw new IllegalStateException();
        }
        consuls.put(year, new int[] {first, second});
        return consuls.size();
    }

    public int strikeConsuls(int year) {
        needYear(year);
        if (consuls.remove(year) == null) {
            throw new IllegalStateException();
        }
        return consuls.size();
    }

    public int consulsOf(int year) {
        needYear(year);
        int[] pair = consuls.get(year);
        return pair == null ? -1 : 1000 * pair[0] + pair[1];
    }

    public int afterConsuls(int year) {
        needYear(year);
        Integer latest = consuls.floorKey(year);
        return latest == null ? -1 : year - latest;
    }

    public int yearOfConsuls(int first, int second, int time) {
        if (time < 1) {
            throw new IllegalArgumentException();
        }
        int seen = 0;
        for (Map.Entry<Integer, int[]> entry : consuls.entrySet()) {
            int one = entry.getValue()[0];
            int other = entry.getValue()[1];
            if (one == first && other == second || one == second && other == first) {
                seen++;
                if (seen == time) {
                    return entry.getKey();
                }
            }
        }
        return -1;
    }

    public int setCharacter(int place, int character) {
        if (place < 1 || place > 365) {
            throw new IndexOutOfBoundsException();
        }
        if (character < 0 || character > 3) {
            throw new IllegalArgumentException();
        }
        int before = characters[place];
        characters[place] = character;
        return before;
    }

    public int characterOf(int number) {
        needNumber(number);
        return characters[ALL.places[number]];
    }

    public boolean canVote(int number) {
        return characterOf(number) == 2 && !isMarket(number);
    }

    public int nextCourt(int number) {
        needNumber(number);
        // Two years are twice as many days as can matter.
        for (int day = number; day < Almanac.DAYS && day < number + 731; day++) {
            if (characterOf(day) == 0 || characterOf(day) == 2) {
                return day;
            }
        }
        return -1;
    }

    public int votes(int year) {
        needYear(year);
        int count = 0;
        for (int number = ALL.firsts[year]; number < ALL.firsts[year + 1]; number++) {
            count += canVote(number) ? 1 : 0;
        }
        return count;
    }

    private static void needYear(int year) {
        if (year < 1 || year > 3000) {
            throw new IndexOutOfBoundsException();
        }
    }

    private static void needMonth(int month) {
        if (month < 1 || month > 12) {
            throw new IndexOutOfBoundsException();
        }
    }

    private static void needNumber(int number) {
        if (number < 0 || number >= Almanac.DAYS) {
            throw new IndexOutOfBoundsException();
        }
    }
}
