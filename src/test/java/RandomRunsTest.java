import java.lang.reflect.InvocationTargetException;
import java.lang.reflect.Method;
import java.util.Random;

/**
 * Long runs of mixed calls, right and wrong ones, on a calendar and on the naive one: after
 * every call both must have answered, or thrown, the same. The seeds are fixed, so a run
 * that fails fails again.
 */
public final class RandomRunsTest {
    private static final int RUNS = 3000;
    private static final int CALLS = 512;

    /** Each method, with a letter for what each of its arguments is. */
    private static final String[][] GROUPS = {
        {"days", "number YMD", "numberByCounting YMD", "yearOf N", "monthOf N", "dayOf N",
            "weekdayOf N"},
        {"anchorOf N", "anchorMonthOf N", "countOf N", "isDoubled N", "fromCount YMACB",
            "greatestCount YMA"},
        {"lawNumber N", "termEnd NT", "lawDays NN", "placeOf N"},
        {"letterOfEight N", "letterOfSeven N", "setMarketDay N", "isMarket N",
            "marketLetters Y", "sundayLetters Y"},
        {"setConsuls YKK", "setConsuls YKK", "setConsuls YKK", "strikeConsuls Y",
            "consulsOf Y", "afterConsuls Y", "yearOfConsuls KKI"},
        {"setCharacter PX", "setCharacter PX", "setCharacter PX", "characterOf N", "canVote N",
            "nextCourt N", "votes Y"},
    };
    private static final int[] EXTREMES = {
        Integer.MIN_VALUE, Integer.MIN_VALUE + 1, -1000, -1, 0, 1, 1000, 3001, 1095750,
        Integer.MAX_VALUE - 1, Integer.MAX_VALUE,
    };

    private final Random random;
    private final int favourite;
    /** Years and places are drawn from so many, that calls meet one another's. */
    private final int years;
    private final int places;
    private final int consuls;

    private RandomRunsTest(int seed) {
        random = new Random(seed);
        favourite = random.nextInt(GROUPS.length);
        years = random.nextBoolean() ? 3000 : 1 + random.nextInt(120);
        places = random.nextBoolean() ? 365 : 1 + random.nextInt(80);
        consuls = random.nextBoolean() ? 999 : 2 + random.nextInt(4);
    }

    public static void main(String[] args) throws Exception {
        Check check = new Check();
        for (int seed = 1; seed <= RUNS; seed++) {
            new RandomRunsTest(seed).run(check, seed);
        }
        check.end();
    }

    private void run(Check check, int seed) throws Exception {
        RomanCalendar x = new RomanCalendar();
        NaiveCalendar naive = new NaiveCalendar();
        for (int call = 1; call <= CALLS; call++) {
            int group = random.nextInt(3) > 0 ? favourite : random.nextInt(GROUPS.length);
            String[] words = GROUPS[group][random.nextInt(GROUPS[group].length)].split(" ");
            Object[] arguments = arguments(words.length > 1 ? words[1] : "");
            Object got = answer(x, words[0], arguments);
            Object due = answer(naive, words[0], arguments);
            if (got.equals(due)) {
                check.equal("", 0, 0);
                continue;
            }
            check.equal("seed " + seed + ", call " + call + ": " + words[0]
                    + java.util.Arrays.toString(arguments), got, due);
            return;
        }
    }

    private static Object answer(Object calendar, String name, Object[] arguments)
            throws Exception {
        try {
            return method(calendar, name).invoke(calendar, arguments);
        } catch (InvocationTargetException e) {
            return "throws " + e.getCause().getClass().getSimpleName();
        }
    }

    private static Method method(Object calendar, String name) {
        for (Method method : calendar.getClass().getMethods()) {
            if (method.getName().equals(name)) {
                return method;
            }
        }
        throw new IllegalStateException(name);
    }

    private Object[] arguments(String kinds) {
        Object[] arguments = new Object[kinds.length()];
        for (int i = 0; i < arguments.length; i++) {
            char kind = kinds.charAt(i);
            if (kind == 'B') {
                arguments[i] = random.nextInt(4) == 0;
            } else if (random.nextInt(40) == 0) {
                arguments[i] = EXTREMES[random.nextInt(EXTREMES.length)];
            } else {
                arguments[i] = argument(kind);
            }
        }
        return arguments;
    }

    private int argument(char kind) {
        switch (kind) {
            case 'Y':
                return year();
            case 'M':
                return random.nextInt(3) == 0 ? 3 : random.nextInt(14);
            case 'D':
                return random.nextInt(34);
            case 'N':
                return number();
            case 'A':
                return random.nextInt(8) == 0 ? random.nextInt(6) - 2 : random.nextInt(3);
            case 'C':
                return random.nextInt(3) == 0 ? 6 : random.nextInt(21);
            case 'T':
                return random.nextInt(3) == 0 ? random.nextInt(100003) - 1 : random.nextInt(2000);
            case 'K':
                return random.nextInt(12) == 0 ? random.nextInt(1002) : 1 + random.nextInt(consuls);
            case 'I':
                return random.nextInt(6);
            case 'P':
                return random.nextInt(4) == 0 ? 53 + random.nextInt(8) : random.nextInt(places + 2);
            default:
                return random.nextInt(12) == 0 ? random.nextInt(8) - 2 : random.nextInt(4);
        }
    }

    private int year() {
        return random.nextInt(20) == 0 ? 2998 + random.nextInt(4) : 1 + random.nextInt(years);
    }

    /** Often one near the doubled day, or near an end of the calendar. */
    private int number() {
        switch (random.nextInt(6)) {
            case 0:
                return 1147 + 1461 * random.nextInt(750) + random.nextInt(9);
            case 1:
                return 1095750 - random.nextInt(1000);
            case 2:
                return random.nextInt(800) - 2;
            default:
                return random.nextInt(1095750);
        }
    }
}
