/** Promises 19 to 24: letters, markets and Sundays. */
public final class LettersTest {
    private static final Check check = new Check();

    public static void main(String[] args) {
        letters();
        markets();
        marketLetters();
        sundayLetters();
        wrongNumbers();
        wrongYears();
        check.end();
    }

    private static void letters() {
        RomanCalendar x = new RomanCalendar();
        letters(x, 0, 0, 0);
        letters(x, 6, 6, 6);
        letters(x, 7, 7, 0);
        letters(x, 8, 0, 1);
        letters(x, 364, 4, 0);
        letters(x, 365, 0, 0);
        letters(x, 1149, 6, 5);
        letters(x, 1150, 6, 5);
        letters(x, 1151, 7, 6);
        letters(x, 1155, 3, 3);
        letters(x, 1095749, 4, 0);
    }

    private static void letters(RomanCalendar x, int number, int eight, int seven) {
        check.equal("letterOfEight(" + number + ")", x.letterOfEight(number), eight);
        check.equal("letterOfSeven(" + number + ")", x.letterOfSeven(number), seven);
    }

    private static void markets() {
        RomanCalendar x = new RomanCalendar();
        check.yes("isMarket(0)", x.isMarket(0));
        check.no("isMarket(7)", x.isMarket(7));
        check.yes("isMarket(8)", x.isMarket(8));
        check.equal("setMarketDay(1095749)", x.setMarketDay(1095749), 0);
        check.yes("isMarket(5)", x.isMarket(5));
        check.yes("isMarket(1095749)", x.isMarket(1095749));
        check.no("isMarket(0) then", x.isMarket(0));
        check.no("isMarket(1095748)", x.isMarket(1095748));
        check.equal("setMarketDay(15)", x.setMarketDay(15), 5);
        check.equal("setMarketDay(7)", x.setMarketDay(7), 7);
        check.equal("setMarketDay(0)", x.setMarketDay(0), 7);
        check.equal("setMarketDay(0) again", x.setMarketDay(0), 0);
    }

    private static void marketLetters() {
        RomanCalendar x = new RomanCalendar();
        // Year 1 is the days 0 to 364: its markets are 0 to 360, of the places 1 to 361.
        check.equal("marketLetters(1)", x.marketLetters(1), 0);
        // Year 2 is 365 to 729: markets 368 (place 4) to 728 (place 364).
        check.equal("marketLetters(2)", x.marketLetters(2), 33);
        // Year 4 is 1095 to 1460: markets 1096 (place 2) to 1456 (place 361).
        check.equal("marketLetters(4)", x.marketLetters(4), 10);
        check.equal("marketLetters(3000)", x.marketLetters(3000), 7);
        x.setMarketDay(7);
        // The first one is the eighth day of the year 1, the last one 359.
        check.equal("marketLetters(1) then", x.marketLetters(1), 77);
        check.equal("marketLetters(8)", x.marketLetters(8), 32);
        x.setMarketDay(4);
        // The last one of the year 1 is its last day.
        check.equal("marketLetters(1) at last", x.marketLetters(1), 44);
    }

    private static void sundayLetters() {
        RomanCalendar x = new RomanCalendar();
        // Sundays are 1, 8 .. 358 in the year 1, and 365 to 729 in the year 2.
        check.equal("sundayLetters(1)", x.sundayLetters(1), 11);
        check.equal("sundayLetters(2)", x.sundayLetters(2), 0);
        check.equal("sundayLetters(8)", x.sundayLetters(8), 6);
        check.equal("sundayLetters(3000)", x.sundayLetters(3000), 54);
        x.setMarketDay(3);
        check.equal("sundayLetters(8) with other markets", x.sundayLetters(8), 6);
    }

    private static void wrongNumbers() {
        RomanCalendar x = new RomanCalendar();
        x.setMarketDay(6);
        for (int number : Check.wrongNumbers()) {
            check.noIndex("letterOfEight(" + number + ")", () -> x.letterOfEight(number));
            check.noIndex("letterOfSeven(" + number + ")", () -> x.letterOfSeven(number));
            check.noIndex("isMarket(" + number + ")", () -> x.isMarket(number));
            check.noIndex("setMarketDay(" + number + ")", () -> x.setMarketDay(number));
            check.yes("isMarket(6) after " + number, x.isMarket(6));
        }
        check.equal("setMarketDay(1) after wrong ones", x.setMarketDay(1), 6);
    }

    private static void wrongYears() {
        RomanCalendar x = new RomanCalendar();
        for (int year : Check.wrongYears()) {
            check.noIndex("marketLetters(" + year + ")", () -> x.marketLetters(year));
            check.noIndex("sundayLetters(" + year + ")", () -> x.sundayLetters(year));
        }
    }
}
