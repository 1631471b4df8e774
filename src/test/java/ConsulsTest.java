/** Promises 25 to 29: consuls. */
public final class ConsulsTest {
    private static final Check check = new Check();

    public static void main(String[] args) {
        setAndStrike();
        wrongConsuls();
        sixtyYears();
        yearsAfter();
        yearsByConsuls();
        strikingForgets();
        wrongYears();
        check.end();
    }

    private static void setAndStrike() {
        RomanCalendar x = new RomanCalendar();
        check.equal("setConsuls(3000, 1, 999)", x.setConsuls(3000, 1, 999), 1);
        check.equal("setConsuls(1, 999, 1)", x.setConsuls(1, 999, 1), 2);
        check.equal("consulsOf(3000)", x.consulsOf(3000), 1999);
        check.equal("consulsOf(1)", x.consulsOf(1), 999001);
        check.equal("consulsOf(2)", x.consulsOf(2), -1);
        check.equal("setConsuls(1, 2, 3)", x.setConsuls(1, 2, 3), 2);
        check.equal("consulsOf(1) then", x.consulsOf(1), 2003);
        check.equal("strikeConsuls(3000)", x.strikeConsuls(3000), 1);
        check.equal("consulsOf(3000) then", x.consulsOf(3000), -1);
        check.noState("strikeConsuls(3000) again", () -> x.strikeConsuls(3000));
        check.noState("strikeConsuls(2)", () -> x.strikeConsuls(2));
        check.equal("strikeConsuls(1)", x.strikeConsuls(1), 0);
        check.equal("consulsOf(1) at last", x.consulsOf(1), -1);
    }

    private static void wrongConsuls() {
        RomanCalendar x = new RomanCalendar();
        x.setConsuls(5, 10, 20);
        for (int consul : new int[] {0, 1000, -1, Integer.MIN_VALUE, Integer.MAX_VALUE}) {
            check.noArgument("setConsuls(5, " + consul + ", 2)", () -> x.setConsuls(5, consul, 2));
            check.noArgument("setConsuls(5, 2, " + consul + ")", () -> x.setConsuls(5, 2, consul));
        }
        check.noArgument("setConsuls(5, 7, 7)", () -> x.setConsuls(5, 7, 7));
        check.noArgument("setConsuls(6, 7, 7)", () -> x.setConsuls(6, 7, 7));
        check.equal("consulsOf(5)", x.consulsOf(5), 10020);
        check.equal("consulsOf(6)", x.consulsOf(6), -1);
        check.equal("strikeConsuls(5)", x.strikeConsuls(5), 0);
    }

    private static void sixtyYears() {
        RomanCalendar x = new RomanCalendar();
        for (int i = 1; i <= 60; i++) {
            check.equal("setConsuls " + i, x.setConsuls(i * 50, i, i + 1), i);
        }
        check.noState("setConsuls of the 61st", () -> x.setConsuls(1, 1, 2));
        check.noArgument("wrong consuls of the 61st", () -> x.setConsuls(1, 1, 1));
        check.noIndex("no such year behind the 60th", () -> x.setConsuls(3001, 1, 1));
        check.equal("consulsOf(1)", x.consulsOf(1), -1);
        check.equal("in place of the first", x.setConsuls(50, 8, 9), 60);
        check.equal("in place of the last", x.setConsuls(3000, 9, 8), 60);
        check.equal("strikeConsuls(1500)", x.strikeConsuls(1500), 59);
        check.equal("the 60th again", x.setConsuls(1, 1, 2), 60);
        check.noState("the 61st again", () -> x.setConsuls(1500, 1, 2));
        check.equal("consulsOf(1) then", x.consulsOf(1), 1002);
        check.equal("consulsOf(50)", x.consulsOf(50), 8009);
        check.equal("consulsOf(100)", x.consulsOf(100), 2003);
        check.equal("consulsOf(3000)", x.consulsOf(3000), 9008);
    }

    private static void yearsAfter() {
        RomanCalendar x = new RomanCalendar();
        check.equal("afterConsuls(3000) of none", x.afterConsuls(3000), -1);
        x.setConsuls(100, 1, 2);
        x.setConsuls(50, 1, 2);
        check.equal("afterConsuls(49)", x.afterConsuls(49), -1);
        check.equal("afterConsuls(50)", x.afterConsuls(50), 0);
        check.equal("afterConsuls(99)", x.afterConsuls(99), 49);
        check.equal("afterConsuls(100)", x.afterConsuls(100), 0);
        check.equal("afterConsuls(3000)", x.afterConsuls(3000), 2900);
        x.strikeConsuls(100);
        check.equal("afterConsuls(3000) then", x.afterConsuls(3000), 2950);
        x.setConsuls(1, 1, 2);
        check.equal("afterConsuls(49) then", x.afterConsuls(49), 48);
    }

    private static void yearsByConsuls() {
        RomanCalendar x = new RomanCalendar();
        x.setConsuls(700, 3, 4);
        x.setConsuls(20, 4, 3);
        x.setConsuls(300, 3, 4);
        x.setConsuls(301, 3, 5);
        check.equal("yearOfConsuls(3, 4, 1)", x.yearOfConsuls(3, 4, 1), 20);
        check.equal("yearOfConsuls(4, 3, 1)", x.yearOfConsuls(4, 3, 1), 20);
        check.equal("yearOfConsuls(3, 4, 2)", x.yearOfConsuls(3, 4, 2), 300);
        check.equal("yearOfConsuls(4, 3, 3)", x.yearOfConsuls(4, 3, 3), 700);
        check.equal("yearOfConsuls(3, 4, 4)", x.yearOfConsuls(3, 4, 4), -1);
        check.equal("yearOfConsuls(5, 3, 1)", x.yearOfConsuls(5, 3, 1), 301);
        check.equal("yearOfConsuls(3, 3, 1)", x.yearOfConsuls(3, 3, 1), -1);
        check.equal("yearOfConsuls(4, 5, 1)", x.yearOfConsuls(4, 5, 1), -1);
        check.equal("yearOfConsuls(2, 1004, 1)", x.yearOfConsuls(2, 1004, 1), -1);
        check.equal("yearOfConsuls(0, 3004, 1)", x.yearOfConsuls(0, 3004, 1), -1);
        check.equal("yearOfConsuls(-1, 4, 1)", x.yearOfConsuls(-1, 4, 1), -1);
        check.equal("yearOfConsuls of extremes",
                x.yearOfConsuls(Integer.MIN_VALUE, Integer.MAX_VALUE, Integer.MAX_VALUE), -1);
        check.equal("for the greatest time", x.yearOfConsuls(3, 4, Integer.MAX_VALUE), -1);
        check.noArgument("for the time 0", () -> x.yearOfConsuls(3, 4, 0));
        check.noArgument("for the time -1", () -> x.yearOfConsuls(0, 0, -1));
        check.noArgument("for the least time", () -> x.yearOfConsuls(3, 4, Integer.MIN_VALUE));
        allSixty();
    }

    private static void allSixty() {
        RomanCalendar x = new RomanCalendar();
        for (int year = 60; year >= 1; year--) {
            x.setConsuls(year, 1 + year % 2, 2 - year % 2);
        }
        for (int time = 1; time <= 60; time++) {
            check.equal("yearOfConsuls(1, 2, " + time + ")", x.yearOfConsuls(1, 2, time), time);
        }
        check.equal("yearOfConsuls(1, 2, 61)", x.yearOfConsuls(1, 2, 61), -1);
    }

    private static void strikingForgets() {
        RomanCalendar x = new RomanCalendar();
        x.setConsuls(10, 1, 2);
        x.setConsuls(20, 1, 2);
        x.strikeConsuls(10);
        check.equal("yearOfConsuls(1, 2, 1)", x.yearOfConsuls(1, 2, 1), 20);
        check.equal("yearOfConsuls(1, 2, 2)", x.yearOfConsuls(1, 2, 2), -1);
        check.equal("yearOfConsuls(0, 0, 1)", x.yearOfConsuls(0, 0, 1), -1);
        x.setConsuls(20, 3, 4);
        check.equal("yearOfConsuls(1, 2, 1) then", x.yearOfConsuls(1, 2, 1), -1);
    }

    private static void wrongYears() {
        RomanCalendar x = new RomanCalendar();
        x.setConsuls(7, 1, 2);
        for (int year : Check.wrongYears()) {
            check.noIndex("setConsuls(" + year + ")", () -> x.setConsuls(year, 0, 0));
            check.noIndex("strikeConsuls(" + year + ")", () -> x.strikeConsuls(year));
            check.noIndex("consulsOf(" + year + ")", () -> x.consulsOf(year));
            check.noIndex("afterConsuls(" + year + ")", () -> x.afterConsuls(year));
        }
        check.equal("consulsOf(7)", x.consulsOf(7), 1002);
        check.equal("setConsuls(8, 1, 2)", x.setConsuls(8, 1, 2), 2);
    }
}
