/** Promises 25 to 29: consuls. */
public final class ConsulsTest {
    private static final Check check = new Check();

    public static void main(String[] args) {
        setConsuls();
        wrongConsuls();
        sixtyYears();
        sixtyYearsOrder();
        Wrong.years(check, 25, "setConsuls(%, 1, 2)");
        strikeConsuls();
        wrongStrikes();
        consulsOf();
        Wrong.years(check, 27, "consulsOf(%)");
        afterConsuls();
        Wrong.years(check, 28, "afterConsuls(%)");
        yearOfConsuls();
        anyNumbers();
        lastTimes();
        yearsThatChange();
        wrongTimes();
        check.end(25, 29);
    }

    private static void setConsuls() {
        Run x = new Run(check);
        check.promise(25, "the first and the last year, the least and the greatest consul");
        x.due("setConsuls(3000, 1, 999)", 1);
        x.due("setConsuls(1, 999, 1)", 2);
        x.due("setConsuls(2, 1, 2)", 3);
        x.due("setConsuls(2999, 999, 998)", 4);
        x.due("consulsOf(3000)", 1999);
        x.due("consulsOf(1)", 999001);
        x.due("consulsOf(2)", 1002);
        x.due("consulsOf(2999)", 999998);
        check.promise(25, "in place of those that it has");
        x.due("setConsuls(1, 2, 3)", 4);
        x.due("consulsOf(1)", 2003);
        x.due("setConsuls(1, 2, 3)", 4);
        x.due("consulsOf(1)", 2003);
        x.due("setConsuls(1, 3, 2)", 4);
        x.due("consulsOf(1)", 3002);
        x.due("consulsOf(2)", 1002);
        check.promise(25, "two years may have the same ones");
        x.due("setConsuls(4, 3, 2)", 5);
        x.due("consulsOf(4)", 3002);
        x.due("consulsOf(1)", 3002);
    }

    private static void wrongConsuls() {
        Run x = Wrong.busy(check);
        for (int year : new int[] {4, 5}) {
            check.promise(25, "throws IllegalArgumentException if first or second is out of range");
            for (int consul : Wrong.CONSULS) {
                x.noArgument("setConsuls(" + year + ", " + consul + ", 2)");
                x.noArgument("setConsuls(" + year + ", 2, " + consul + ")");
                x.noArgument("setConsuls(" + year + ", " + consul + ", " + consul + ")");
            }
            check.promise(25, "second is another one than first");
            for (int consul : new int[] {1, 2, 7, 8, 999}) {
                x.noArgument("setConsuls(" + year + ", " + consul + ", " + consul + ")");
            }
        }
        x.due("consulsOf(4)", 7008);
        x.due("consulsOf(5)", -1);
        check.promise(25, "no such year decides ahead of the other lines");
        for (int year : Wrong.YEARS) {
            x.noIndex("setConsuls(" + year + ", 0, 2)");
            x.noIndex("setConsuls(" + year + ", 2, 1000)");
            x.noIndex("setConsuls(" + year + ", 2, 2)");
        }
    }

    /** A run behind which so many years have consuls: 50, 100 and so on. */
    private static Run filled(int years) {
        Run x = new Run(check);
        check.promise(25, "returns how many years have consuls then");
        for (int i = 1; i <= years; i++) {
            x.due("setConsuls(" + i * 50 + ", " + i + ", " + (i + 1) + ")", i);
        }
        return x;
    }

    private static void sixtyYears() {
        Run x = filled(59);
        check.promise(25, "59 others have consuls");
        x.due("setConsuls(3000, 60, 61)", 60);
        check.promise(25, "throws IllegalStateException if it has none, and 60 others have");
        x.noState("setConsuls(1, 1, 2)");
        x.noState("setConsuls(2999, 998, 999)");
        x.due("consulsOf(1)", -1);
        check.promise(25, "60 years have consuls, and the year is one of them");
        x.due("setConsuls(50, 8, 9)", 60);
        x.due("setConsuls(3000, 9, 8)", 60);
        x.due("setConsuls(1500, 8, 9)", 60);
        x.noState("setConsuls(49, 1, 2)");
        check.promise(25, "struck consuls leave room for one year, whichever it is");
        x.due("strikeConsuls(1500)", 59);
        x.due("setConsuls(1, 1, 2)", 60);
        x.noState("setConsuls(1500, 1, 2)");
        x.due("strikeConsuls(50)", 59);
        x.due("strikeConsuls(3000)", 58);
        x.due("setConsuls(3000, 1, 2)", 59);
        x.due("setConsuls(2, 1, 2)", 60);
        x.noState("setConsuls(50, 1, 2)");
        check.promise(27, "60 years have consuls");
        x.due("consulsOf(1)", 1002);
        x.due("consulsOf(2)", 1002);
        x.due("consulsOf(50)", -1);
        x.due("consulsOf(100)", 2003);
        x.due("consulsOf(1500)", -1);
        x.due("consulsOf(2950)", 59060);
        x.due("consulsOf(3000)", 1002);
    }

    private static void sixtyYearsOrder() {
        Run x = filled(60);
        check.promise(25, "consuls out of range decide ahead of 60 others");
        x.noArgument("setConsuls(1, 0, 2)");
        x.noArgument("setConsuls(1, 2, 1000)");
        x.noArgument("setConsuls(1, 2, 2)");
        check.promise(25, "consuls out of range, of one of 60 years");
        x.noArgument("setConsuls(50, 0, 2)");
        x.noArgument("setConsuls(50, 2, 2)");
        check.promise(25, "no such year decides ahead of 60 others");
        x.noIndex("setConsuls(0, 1, 2)");
        x.noIndex("setConsuls(3001, 1, 2)");
        x.noIndex("setConsuls(3001, 1, 1)");
        check.promise(26, "throws IllegalStateException if it has none, though 60 others have");
        x.noState("strikeConsuls(1)");
        x.noState("strikeConsuls(2999)");
        check.promise(26, "returns how many years have consuls then, from 60 to 0");
        for (int i = 60; i >= 1; i--) {
            x.due("strikeConsuls(" + i * 50 + ")", i - 1);
        }
        check.promise(26, "all are struck");
        x.noState("strikeConsuls(50)");
        x.due("afterConsuls(3000)", -1);
        x.due("setConsuls(1, 1, 2)", 1);
    }

    private static void strikeConsuls() {
        Run x = new Run(check);
        check.promise(26, "throws IllegalStateException of a new object");
        x.noState("strikeConsuls(1)");
        x.noState("strikeConsuls(3000)");
        check.promise(26, "the first and the last year");
        x.due("setConsuls(1, 1, 2)", 1);
        x.due("setConsuls(3000, 3, 4)", 2);
        x.due("setConsuls(5, 5, 6)", 3);
        x.due("strikeConsuls(3000)", 2);
        x.due("strikeConsuls(1)", 1);
        x.due("consulsOf(3000)", -1);
        x.due("consulsOf(1)", -1);
        x.due("consulsOf(5)", 5006);
        check.promise(26, "throws IllegalStateException if it has none");
        x.noState("strikeConsuls(1)");
        x.noState("strikeConsuls(3000)");
        x.noState("strikeConsuls(4)");
        x.noState("strikeConsuls(6)");
        check.promise(26, "the only year");
        x.due("strikeConsuls(5)", 0);
        x.noState("strikeConsuls(5)");
        check.promise(26, "a struck year may have consuls again");
        x.due("setConsuls(5, 6, 5)", 1);
        x.due("consulsOf(5)", 6005);
    }

    private static void wrongStrikes() {
        Wrong.years(check, 26, "strikeConsuls(%)");
        check.promise(26, "no such year decides ahead of its having no consuls");
        Run x = new Run(check);
        for (int year : Wrong.YEARS) {
            x.noIndex("strikeConsuls(" + year + ")");
        }
    }

    private static void consulsOf() {
        Run x = new Run(check);
        check.promise(27, "NONE if it has none");
        x.due("consulsOf(1)", -1);
        x.due("consulsOf(3000)", -1);
        check.promise(27, "1000 times the first one, and the second one, together");
        x.due("setConsuls(10, 1, 2)", 1);
        x.due("consulsOf(10)", 1002);
        x.due("setConsuls(10, 999, 998)", 1);
        x.due("consulsOf(10)", 999998);
        x.due("setConsuls(10, 1, 999)", 1);
        x.due("consulsOf(10)", 1999);
        x.due("setConsuls(10, 999, 1)", 1);
        x.due("consulsOf(10)", 999001);
        check.promise(27, "the years beside it have none");
        x.due("consulsOf(9)", -1);
        x.due("consulsOf(11)", -1);
    }

    private static void afterConsuls() {
        Run x = new Run(check);
        check.promise(28, "NONE of a new object");
        x.due("afterConsuls(1)", -1);
        x.due("afterConsuls(3000)", -1);
        x.due("setConsuls(100, 1, 2)", 1);
        x.due("setConsuls(50, 3, 4)", 2);
        check.promise(28, "NONE if no year up to it has");
        x.due("afterConsuls(49)", -1);
        x.due("afterConsuls(1)", -1);
        check.promise(28, "0 if the year has consuls");
        x.due("afterConsuls(50)", 0);
        x.due("afterConsuls(100)", 0);
        check.promise(28, "the latest year with consuls, it or an earlier one");
        x.due("afterConsuls(51)", 1);
        x.due("afterConsuls(99)", 49);
        x.due("afterConsuls(101)", 1);
        x.due("afterConsuls(3000)", 2900);
        check.promise(28, "struck years count no more");
        x.due("strikeConsuls(100)", 1);
        x.due("afterConsuls(100)", 50);
        x.due("afterConsuls(3000)", 2950);
        x.due("strikeConsuls(50)", 0);
        x.due("afterConsuls(3000)", -1);
        check.promise(28, "from the first to the last year");
        x.due("setConsuls(1, 1, 2)", 1);
        x.due("afterConsuls(1)", 0);
        x.due("afterConsuls(2)", 1);
        x.due("afterConsuls(3000)", 2999);
        x.due("setConsuls(3000, 1, 2)", 2);
        x.due("afterConsuls(3000)", 0);
        x.due("afterConsuls(2999)", 2998);
    }

    private static void yearOfConsuls() {
        Run x = new Run(check);
        check.promise(29, "NONE of a new object");
        x.due("yearOfConsuls(3, 4, 1)", -1);
        x.due("setConsuls(700, 3, 4)", 1);
        x.due("setConsuls(20, 4, 3)", 2);
        x.due("setConsuls(300, 3, 4)", 3);
        x.due("setConsuls(301, 3, 5)", 4);
        check.promise(29, "in whichever order, by rising years");
        x.due("yearOfConsuls(3, 4, 1)", 20);
        x.due("yearOfConsuls(4, 3, 1)", 20);
        x.due("yearOfConsuls(3, 4, 2)", 300);
        x.due("yearOfConsuls(4, 3, 2)", 300);
        x.due("yearOfConsuls(3, 4, 3)", 700);
        x.due("yearOfConsuls(4, 3, 3)", 700);
        x.due("yearOfConsuls(5, 3, 1)", 301);
        check.promise(29, "NONE if there is none for that time");
        x.due("yearOfConsuls(3, 4, 4)", -1);
        x.due("yearOfConsuls(3, 5, 2)", -1);
        x.due("yearOfConsuls(3, 4, 60)", -1);
        x.due("yearOfConsuls(3, 4, 61)", -1);
        x.due("yearOfConsuls(3, 4, GREATEST)", -1);
        check.promise(29, "both consuls, not one of them alone");
        x.due("yearOfConsuls(4, 5, 1)", -1);
        x.due("yearOfConsuls(3, 6, 1)", -1);
        x.due("yearOfConsuls(6, 3, 1)", -1);
        x.due("yearOfConsuls(3, 3, 1)", -1);
        x.due("yearOfConsuls(4, 4, 1)", -1);
        check.promise(29, "the first and the last year");
        x.due("setConsuls(3000, 999, 1)", 5);
        x.due("setConsuls(1, 1, 999)", 6);
        x.due("yearOfConsuls(1, 999, 1)", 1);
        x.due("yearOfConsuls(1, 999, 2)", 3000);
        x.due("yearOfConsuls(1, 999, 3)", -1);
    }

    private static void anyNumbers() {
        Run x = new Run(check);
        x.due("setConsuls(20, 3, 4)", 1);
        x.due("setConsuls(21, 1, 999)", 2);
        check.promise(29, "first and second are any number");
        for (String pair : new String[] {"0, 0", "0, 4", "3, 0", "-1, -1", "-1, 4", "1000, 1000",
            "1000, 4", "3, 1000", "LEAST, GREATEST", "GREATEST, LEAST", "LEAST, LEAST",
            "GREATEST, GREATEST", "3, LEAST", "GREATEST, 4"}) {
            x.due("yearOfConsuls(" + pair + ", 1)", -1);
        }
        check.promise(29, "1000 times the one, and the other, together may be the same by others");
        x.due("yearOfConsuls(2, 1004, 1)", -1);
        x.due("yearOfConsuls(0, 3004, 1)", -1);
        x.due("yearOfConsuls(4, -996, 1)", -1);
        x.due("yearOfConsuls(0, 1999, 1)", -1);
        // 1000 times 2 to the power of 29 has nothing in its 32 lower bits.
        x.due("yearOfConsuls(536870915, 4, 1)", -1);
        x.due("yearOfConsuls(4, 536870915, 1)", -1);
    }

    private static void lastTimes() {
        Run x = new Run(check);
        for (int year = 60; year >= 1; year--) {
            String pair = year % 2 == 0 ? "1, 2" : "2, 1";
            x.due("setConsuls(" + year + ", " + pair + ")", 61 - year);
        }
        check.promise(29, "all 60 years have these two");
        for (int time = 1; time <= 60; time++) {
            x.due("yearOfConsuls(1, 2, " + time + ")", time);
        }
        x.due("yearOfConsuls(2, 1, 60)", 60);
        x.due("yearOfConsuls(1, 2, 61)", -1);
        x.due("yearOfConsuls(1, 2, GREATEST)", -1);
        x.due("yearOfConsuls(1, 3, 1)", -1);
    }

    private static void yearsThatChange() {
        Run x = new Run(check);
        x.due("setConsuls(10, 1, 2)", 1);
        x.due("setConsuls(20, 1, 2)", 2);
        check.promise(29, "a struck year has these two no more");
        x.due("strikeConsuls(10)", 1);
        x.due("yearOfConsuls(1, 2, 1)", 20);
        x.due("yearOfConsuls(1, 2, 2)", -1);
        x.due("yearOfConsuls(0, 0, 1)", -1);
        check.promise(29, "a year with others in their place has these two no more");
        x.due("setConsuls(20, 3, 4)", 1);
        x.due("yearOfConsuls(1, 2, 1)", -1);
        x.due("yearOfConsuls(3, 4, 1)", 20);
    }

    private static void wrongTimes() {
        Run x = Wrong.busy(check);
        check.promise(29, "throws IllegalArgumentException if time is below 1");
        for (int time : Wrong.TIMES) {
            x.noArgument("yearOfConsuls(7, 8, " + time + ")");
            x.noArgument("yearOfConsuls(1, 2, " + time + ")");
            x.noArgument("yearOfConsuls(0, 1000, " + time + ")");
            new Run(check).noArgument("yearOfConsuls(7, 8, " + time + ")");
        }
        x.due("yearOfConsuls(7, 8, 1)", 4);
        x.due("yearOfConsuls(7, 8, 2)", 3000);
    }
}
