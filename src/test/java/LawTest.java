/** Promises 15 to 18: the law's days. */
public final class LawTest {
    private static final Check check = new Check();

    public static void main(String[] args) {
        lawNumbers();
        terms();
        wrongTerms();
        lawDays();
        places();
        wrongNumbers();
        check.end();
    }

    private static void lawNumbers() {
        RomanCalendar x = new RomanCalendar();
        check.equal("lawNumber(0)", x.lawNumber(0), 0);
        check.equal("lawNumber(54)", x.lawNumber(54), 54);
        check.equal("lawNumber(55)", x.lawNumber(55), 55);
        check.equal("lawNumber(1148)", x.lawNumber(1148), 1148);
        check.equal("lawNumber(1149)", x.lawNumber(1149), 1149);
        check.equal("lawNumber(1150)", x.lawNumber(1150), 1149);
        check.equal("lawNumber(1151)", x.lawNumber(1151), 1150);
        check.equal("lawNumber(1461)", x.lawNumber(1461), 1460);
        check.equal("lawNumber(2610)", x.lawNumber(2610), 2609);
        check.equal("lawNumber(2611)", x.lawNumber(2611), 2609);
        check.equal("lawNumber(1095749)", x.lawNumber(1095749), 1094999);
    }

    private static void terms() {
        RomanCalendar x = new RomanCalendar();
        check.equal("termEnd(0, 0)", x.termEnd(0, 0), 0);
        check.equal("termEnd(0, 1)", x.termEnd(0, 1), 1);
        check.equal("termEnd(0, 1148)", x.termEnd(0, 1148), 1148);
        check.equal("termEnd(0, 1149)", x.termEnd(0, 1149), 1150);
        check.equal("termEnd(0, 1150)", x.termEnd(0, 1150), 1151);
        // The doubled day and the day behind it are one, which ends with the second of them.
        check.equal("termEnd(1149, 0)", x.termEnd(1149, 0), 1150);
        check.equal("termEnd(1150, 0)", x.termEnd(1150, 0), 1150);
        check.equal("termEnd(1149, 1)", x.termEnd(1149, 1), 1151);
        check.equal("termEnd(1149, 1460)", x.termEnd(1149, 1460), 2611);
        check.equal("termEnd(730000, 100000)", x.termEnd(730000, 100000), 830069);
        check.equal("termEnd(1095749, 0)", x.termEnd(1095749, 0), 1095749);
        check.equal("termEnd(1095000, 748)", x.termEnd(1095000, 748), 1095749);
    }

    private static void wrongTerms() {
        RomanCalendar x = new RomanCalendar();
        for (int number : Check.wrongNumbers()) {
            check.noIndex("termEnd(" + number + ", -1)", () -> x.termEnd(number, -1));
        }
        for (int days : new int[] {-1, 100001, Integer.MIN_VALUE, Integer.MAX_VALUE}) {
            check.noArgument("termEnd(1095749, " + days + ")", () -> x.termEnd(1095749, days));
        }
        check.noState("termEnd(1095749, 1)", () -> x.termEnd(1095749, 1));
        check.noState("termEnd(1095749, 100000)", () -> x.termEnd(1095749, 100000));
        check.noState("termEnd(1095000, 749)", () -> x.termEnd(1095000, 749));
    }

    private static void lawDays() {
        RomanCalendar x = new RomanCalendar();
        check.equal("lawDays(0, 10)", x.lawDays(0, 10), 10);
        check.equal("lawDays(10, 0)", x.lawDays(10, 0), -10);
        check.equal("lawDays(1149, 1150)", x.lawDays(1149, 1150), 0);
        check.equal("lawDays(1150, 1149)", x.lawDays(1150, 1149), 0);
        check.equal("lawDays(1148, 1151)", x.lawDays(1148, 1151), 2);
        check.equal("lawDays(0, 1095749)", x.lawDays(0, 1095749), 1094999);
        check.equal("lawDays(1095749, 0)", x.lawDays(1095749, 0), -1094999);
    }

    private static void places() {
        RomanCalendar x = new RomanCalendar();
        check.equal("placeOf(0)", x.placeOf(0), 1);
        check.equal("placeOf(54)", x.placeOf(54), 55);
        check.equal("placeOf(55)", x.placeOf(55), 56);
        check.equal("placeOf(364)", x.placeOf(364), 365);
        check.equal("placeOf(365)", x.placeOf(365), 1);
        check.equal("placeOf(1148)", x.placeOf(1148), 54);
        check.equal("placeOf(1149)", x.placeOf(1149), 55);
        check.equal("placeOf(1150)", x.placeOf(1150), 55);
        check.equal("placeOf(1151)", x.placeOf(1151), 56);
        check.equal("placeOf(1154)", x.placeOf(1154), 59);
        check.equal("placeOf(1155)", x.placeOf(1155), 60);
        check.equal("placeOf(1460)", x.placeOf(1460), 365);
        check.equal("placeOf(1461)", x.placeOf(1461), 1);
        check.equal("placeOf(1095749)", x.placeOf(1095749), 365);
    }

    private static void wrongNumbers() {
        RomanCalendar x = new RomanCalendar();
        for (int number : Check.wrongNumbers()) {
            check.noIndex("lawNumber(" + number + ")", () -> x.lawNumber(number));
            check.noIndex("lawDays(" + number + ", 0)", () -> x.lawDays(number, 0));
            check.noIndex("lawDays(0, " + number + ")", () -> x.lawDays(0, number));
            check.noIndex("placeOf(" + number + ")", () -> x.placeOf(number));
        }
    }
}
