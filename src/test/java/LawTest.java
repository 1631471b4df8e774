/** Promises 15 to 18: the law's days. */
public final class LawTest {
    private static final Check check = new Check();

    public static void main(String[] args) {
        lawNumbers();
        terms();
        termsOfDoubledDays();
        longestTerms();
        termsBehindTheLastDay();
        wrongTerms();
        lawDays();
        places();
        placesAreTheSame();
        Wrong.numbers(check, 15, "lawNumber(%)");
        Wrong.numbers(check, 16, "termEnd(%, 0)");
        Wrong.numbers(check, 17, "lawDays(%, 0)");
        Wrong.numbers(check, 17, "lawDays(0, %)");
        Wrong.numbers(check, 17, "lawDays(%, %)");
        Wrong.numbers(check, 18, "placeOf(%)");
        check.end(15, 18);
    }

    private static void lawNumbers() {
        Run x = new Run(check);
        check.promise(15, "no doubled day before it");
        x.due("lawNumber(0)", 0);
        x.due("lawNumber(54)", 54);
        x.due("lawNumber(55)", 55);
        x.due("lawNumber(1148)", 1148);
        check.promise(15, "the day itself not counted");
        x.due("lawNumber(1149)", 1149);
        x.due("lawNumber(2610)", 2609);
        x.due("lawNumber(1095438)", 1094689);
        check.promise(15, "the day behind a doubled day has the same one");
        x.due("lawNumber(1150)", 1149);
        x.due("lawNumber(2611)", 2609);
        x.due("lawNumber(1095439)", 1094689);
        check.promise(15, "behind them");
        x.due("lawNumber(1151)", 1150);
        x.due("lawNumber(1461)", 1460);
        x.due("lawNumber(2609)", 2608);
        x.due("lawNumber(2612)", 2610);
        check.promise(15, "the last day");
        x.due("lawNumber(1095749)", 1094999);
    }

    private static void terms() {
        Run x = new Run(check);
        check.promise(16, "days is 0");
        x.due("termEnd(0, 0)", 0);
        x.due("termEnd(1095749, 0)", 1095749);
        check.promise(16, "a day and so many more");
        x.due("termEnd(0, 1)", 1);
        x.due("termEnd(0, 1148)", 1148);
        x.due("termEnd(0, 364)", 364);
        x.due("termEnd(0, 365)", 365);
        x.due("termEnd(364, 1)", 365);
        x.due("termEnd(1460, 1)", 1461);
        x.due("termEnd(0, 1459)", 1460);
        x.due("termEnd(0, 1460)", 1461);
    }

    private static void termsOfDoubledDays() {
        Run x = new Run(check);
        check.promise(16, "the last day whose law's number is that: of a doubled pair the second");
        x.due("termEnd(0, 1149)", 1150);
        x.due("termEnd(1148, 1)", 1150);
        x.due("termEnd(1149, 0)", 1150);
        x.due("termEnd(1150, 0)", 1150);
        x.due("termEnd(1149, 1460)", 2611);
        x.due("termEnd(1150, 1460)", 2611);
        x.due("termEnd(1095437, 1)", 1095439);
        x.due("termEnd(1095438, 0)", 1095439);
        x.due("termEnd(1095439, 0)", 1095439);
        check.promise(16, "a term from a doubled pair is the same from both its days");
        x.due("termEnd(1149, 1)", 1151);
        x.due("termEnd(1150, 1)", 1151);
        x.due("termEnd(0, 1150)", 1151);
        x.due("termEnd(1148, 2)", 1151);
    }

    private static void longestTerms() {
        Run x = new Run(check);
        check.promise(16, "days is 100000");
        x.due("termEnd(0, 100000)", 100068);
        x.due("termEnd(0, 99999)", 100067);
        x.due("termEnd(730000, 100000)", 830069);
        x.due("termEnd(995680, 100000)", 1095749);
    }

    private static void termsBehindTheLastDay() {
        Run x = Wrong.busy(check);
        check.promise(16, "the term ends on the last day");
        x.due("termEnd(1095748, 1)", 1095749);
        x.due("termEnd(1095000, 748)", 1095749);
        x.due("termEnd(1095438, 310)", 1095749);
        x.due("termEnd(1095439, 310)", 1095749);
        check.promise(16, "throws IllegalStateException if the term ends behind the last day");
        x.noState("termEnd(1095749, 1)");
        x.noState("termEnd(1095748, 2)");
        x.noState("termEnd(1095000, 749)");
        x.noState("termEnd(1095438, 311)");
        x.noState("termEnd(1095439, 311)");
        x.noState("termEnd(995681, 100000)");
        x.noState("termEnd(1095749, 100000)");
    }

    private static void wrongTerms() {
        Run x = Wrong.busy(check);
        for (int days : Wrong.TERMS) {
            check.promise(16, "throws IllegalArgumentException if days is out of range");
            x.noArgument("termEnd(0, " + days + ")");
            x.noArgument("termEnd(730000, " + days + ")");
            check.promise(16, "days out of range decides ahead of the last line");
            x.noArgument("termEnd(1095749, " + days + ")");
            check.promise(16, "no such day decides ahead of the other lines");
            for (int number : Wrong.NUMBERS) {
                x.noIndex("termEnd(" + number + ", " + days + ")");
            }
        }
        check.promise(16, "no such day decides ahead of a term's end behind the last day");
        x.noIndex("termEnd(1095750, 100000)");
        x.noIndex("termEnd(GREATEST, 100000)");
    }

    private static void lawDays() {
        Run x = new Run(check);
        check.promise(17, "from a day to itself");
        x.due("lawDays(0, 0)", 0);
        x.due("lawDays(1149, 1149)", 0);
        x.due("lawDays(1095749, 1095749)", 0);
        check.promise(17, "the law's number of to less that of from");
        x.due("lawDays(0, 10)", 10);
        x.due("lawDays(10, 0)", -10);
        x.due("lawDays(1148, 1151)", 2);
        x.due("lawDays(1151, 1148)", -2);
        x.due("lawDays(1148, 1149)", 1);
        x.due("lawDays(1150, 1151)", 1);
        check.promise(17, "the doubled day and the day behind it are one day");
        x.due("lawDays(1149, 1150)", 0);
        x.due("lawDays(1150, 1149)", 0);
        x.due("lawDays(1095438, 1095439)", 0);
        check.promise(17, "from the first to the last day and back");
        x.due("lawDays(0, 1095749)", 1094999);
        x.due("lawDays(1095749, 0)", -1094999);
    }

    private static void places() {
        Run x = new Run(check);
        check.promise(18, "January 1 has the place 1");
        x.due("placeOf(0)", 1);
        x.due("placeOf(365)", 1);
        x.due("placeOf(1095)", 1);
        x.due("placeOf(1461)", 1);
        x.due("placeOf(1095384)", 1);
        check.promise(18, "December 31 the place 365");
        x.due("placeOf(364)", 365);
        x.due("placeOf(1094)", 365);
        x.due("placeOf(1460)", 365);
        x.due("placeOf(1095749)", 365);
        check.promise(18, "ahead of the doubled day");
        x.due("placeOf(1148)", 54);
        check.promise(18, "the doubled day and February 25 both have the place 55");
        x.due("placeOf(1149)", 55);
        x.due("placeOf(1150)", 55);
        x.due("placeOf(1095438)", 55);
        x.due("placeOf(1095439)", 55);
        check.promise(18, "February 26 to 29 have the places 56 to 59");
        x.due("placeOf(1151)", 56);
        x.due("placeOf(1152)", 57);
        x.due("placeOf(1153)", 58);
        x.due("placeOf(1154)", 59);
        check.promise(18, "a common year");
        x.due("placeOf(54)", 55);
        x.due("placeOf(55)", 56);
        x.due("placeOf(58)", 59);
        x.due("placeOf(59)", 60);
    }

    private static void placesAreTheSame() {
        check.promise(18, "all other days have the same places as in other years");
        Run x = new Run(check);
        for (int place = 1; place <= 54; place++) {
            x.due("placeOf(" + (1095 + place - 1) + ")", place);
        }
        for (int place = 60; place <= 365; place++) {
            x.due("placeOf(" + (1095 + place) + ")", place);
        }
    }
}
