/** Promises 19 to 24: letters, markets and Sundays. */
public final class LettersTest {
    private static final Check check = new Check();
    /** The letters of seven of year 5's first and last Sunday, and of the 27 years' behind it. */
    private static final int[] SUNDAYS = {
        33, 22, 11, 6, 55, 44, 33, 21, 0, 66, 55, 43, 22, 11, 0, 65, 44, 33, 22, 10, 66, 55, 44,
        32, 11, 0, 66, 54,
    };

    public static void main(String[] args) {
        lettersOfEight();
        lettersOfSeven();
        lettersOfLeapYears();
        setMarketDay();
        wrongMarketDays();
        markets();
        marketLetters();
        sundayLetters();
        Wrong.numbers(check, 19, "letterOfEight(%)");
        Wrong.numbers(check, 20, "letterOfSeven(%)");
        Wrong.numbers(check, 22, "isMarket(%)");
        Wrong.years(check, 23, "marketLetters(%)");
        Wrong.years(check, 24, "sundayLetters(%)");
        check.end(19, 24);
    }

    private static void lettersOfEight() {
        check.promise(19, "its place in the year less 1, modulo 8");
        Run x = new Run(check);
        for (int number = 0; number < 17; number++) {
            x.due("letterOfEight(" + number + ")", number % 8);
        }
        check.promise(19, "the end of a year and the beginning of the next");
        x.due("letterOfEight(364)", 4);
        x.due("letterOfEight(365)", 0);
        x.due("letterOfEight(1095749)", 4);
        check.promise(19, "whatever the market day is");
        Wrong.busy(check).due("letterOfEight(0)", 0);
    }

    private static void lettersOfSeven() {
        check.promise(20, "its place in the year less 1, modulo 7");
        Run x = new Run(check);
        for (int number = 0; number < 15; number++) {
            x.due("letterOfSeven(" + number + ")", number % 7);
        }
        check.promise(20, "the end of a year and the beginning of the next");
        x.due("letterOfSeven(363)", 6);
        x.due("letterOfSeven(364)", 0);
        x.due("letterOfSeven(365)", 0);
        x.due("letterOfSeven(1095749)", 0);
    }

    private static void lettersOfLeapYears() {
        Run x = new Run(check);
        letters(x, "ahead of the doubled day", 1148, 5, 4);
        letters(x, "the doubled day has the place 55", 1149, 6, 5);
        letters(x, "February 25 has the place 55", 1150, 6, 5);
        letters(x, "February 26 has the place 56", 1151, 7, 6);
        letters(x, "February 29 has the place 59", 1154, 2, 2);
        letters(x, "March 1 has the place 60", 1155, 3, 3);
        letters(x, "December 31 has the place 365", 1460, 4, 0);
        letters(x, "January 1 has the place 1", 1461, 0, 0);
    }

    private static void letters(Run x, String sentence, int number, int eight, int seven) {
        check.promise(19, sentence);
        x.due("letterOfEight(" + number + ")", eight);
        check.promise(20, sentence);
        x.due("letterOfSeven(" + number + ")", seven);
    }

    private static void setMarketDay() {
        Run x = new Run(check);
        check.promise(21, "at first the market day is 0");
        x.due("setMarketDay(0)", 0);
        check.promise(21, "returns the market day before, as the remainder of its number by 8");
        x.due("setMarketDay(1095749)", 0);
        x.due("setMarketDay(15)", 5);
        x.due("setMarketDay(7)", 7);
        x.due("setMarketDay(8)", 7);
        x.due("setMarketDay(1)", 0);
        x.due("setMarketDay(1)", 1);
        x.due("setMarketDay(1149)", 1);
        x.due("setMarketDay(1150)", 5);
        x.due("setMarketDay(0)", 6);
        x.due("setMarketDay(0)", 0);
    }

    private static void wrongMarketDays() {
        check.promise(21, "throws IndexOutOfBoundsException if there is no such day");
        Run fresh = new Run(check);
        Run x = Wrong.busy(check);
        for (int number : Wrong.NUMBERS) {
            fresh.noIndex("setMarketDay(" + number + ")");
            x.noIndex("setMarketDay(" + number + ")");
        }
        fresh.yes("isMarket(0)");
        fresh.due("setMarketDay(1)", 0);
        x.yes("isMarket(5)");
        x.due("setMarketDay(1)", 5);
    }

    private static void markets() {
        Run x = new Run(check);
        for (int market = 0; market < 8; market++) {
            x.due("setMarketDay(" + (1095736 + market) + ")", market == 0 ? 0 : market - 1);
            check.promise(22, "the same remainder by 8 as the market day, before and behind it");
            for (int number = 0; number < 9; number++) {
                isMarket(x, number, number % 8 == market);
            }
            check.promise(22, "the doubled day and the end of a year change no market days");
            isMarket(x, 1149, market == 5);
            isMarket(x, 1150, market == 6);
            isMarket(x, 1151, market == 7);
            isMarket(x, 1460, market == 4);
            isMarket(x, 1461, market == 5);
            check.promise(22, "the last days");
            isMarket(x, 1095748, market == 4);
            isMarket(x, 1095749, market == 5);
        }
    }

    private static void isMarket(Run x, int number, boolean due) {
        if (due) {
            x.yes("isMarket(" + number + ")");
        } else {
            x.no("isMarket(" + number + ")");
        }
    }

    private static void marketLetters() {
        check.promise(23, "at first the market day is 0");
        Run x = new Run(check);
        // Year 1 is the days 0 to 364: its markets are 0 to 360, of the places 1 to 361.
        x.due("marketLetters(1)", 0);
        // Year 2 is 365 to 729: markets 368 (place 4) to 728 (place 364).
        x.due("marketLetters(2)", 33);
        // Year 4 is 1095 to 1460: markets 1096 (place 2) to 1456 (place 361).
        x.due("marketLetters(4)", 10);
        // Year 3000 is 1095384 to 1095749: markets 1095384 (place 1) to 1095744 (place 360).
        x.due("marketLetters(3000)", 7);
        for (int market = 0; market < 8; market++) {
            x.due("setMarketDay(" + market + ")", market == 0 ? 0 : market - 1);
            // Year 1 begins with a day of remainder 0 and ends with one of 4.
            check.promise(23, "first and last market day of the first year");
            x.due("marketLetters(1)", 11 * market);
            // Year 4 begins with a day of remainder 7 and ends, of letter 4, with one of 4.
            check.promise(23, "first and last market day of a leap year");
            x.due("marketLetters(4)", 10 * ((market + 1) % 8) + market);
            // Year 3000 begins with a day of remainder 0 and ends, of letter 4, with one of 5.
            check.promise(23, "first and last market day of the last year");
            x.due("marketLetters(3000)", 10 * market + (market + 7) % 8);
        }
    }

    private static void sundayLetters() {
        Run x = new Run(check);
        check.promise(24, "the first and the last year");
        // Sundays are 1, 8 .. 358 in the year 1.
        x.due("sundayLetters(1)", 11);
        x.due("sundayLetters(3000)", 54);
        check.promise(24, "a common year that begins and ends with a Sunday");
        x.due("sundayLetters(2)", 0);
        check.promise(24, "a common year that begins with a Monday");
        x.due("sundayLetters(3)", 66);
        check.promise(24, "a leap year that begins with a Tuesday");
        x.due("sundayLetters(4)", 54);
        check.promise(24, "all kinds of years, which come again by 28");
        for (int i = 0; i < SUNDAYS.length; i++) {
            x.due("sundayLetters(" + (5 + i) + ")", SUNDAYS[i]);
            x.due("sundayLetters(" + (33 + i) + ")", SUNDAYS[i]);
        }
        check.promise(24, "whatever the market day is");
        x.due("setMarketDay(3)", 0);
        x.due("sundayLetters(8)", 6);
    }
}
