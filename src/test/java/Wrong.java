/** Arguments that are out of range, the first ones on either side of it and the farthest. */
final class Wrong {
    static final int[] NUMBERS = {-1, 1095750, -8, 1095757, Integer.MIN_VALUE, Integer.MAX_VALUE};
    static final int[] YEARS = {0, 3001, -1, -4, 3004, Integer.MIN_VALUE, Integer.MAX_VALUE};
    static final int[] MONTHS = {0, 13, -1, 14, Integer.MIN_VALUE, Integer.MAX_VALUE};
    static final int[] ANCHORS = {-1, 3, Integer.MIN_VALUE, Integer.MAX_VALUE};
    static final int[] COUNTS = {0, -1, Integer.MIN_VALUE};
    static final int[] TERMS = {-1, 100001, Integer.MIN_VALUE, Integer.MAX_VALUE};
    static final int[] CONSULS = {0, 1000, -1, 1001, Integer.MIN_VALUE, Integer.MAX_VALUE};
    static final int[] TIMES = {0, -1, Integer.MIN_VALUE};
    static final int[] PLACES = {0, 366, -1, 367, Integer.MIN_VALUE, Integer.MAX_VALUE};
    static final int[] CHARACTERS = {-1, 4, Integer.MIN_VALUE, Integer.MAX_VALUE};

    private Wrong() {
    }

    /** Each wrong number in the place of the % must be refused, for a method that needs a day. */
    static void numbers(Check check, int promise, String call) {
        check.promise(promise, "throws IndexOutOfBoundsException if there is no such day");
        Run x = busy(check);
        for (int number : NUMBERS) {
            x.noIndex(call.replace("%", "" + number));
        }
    }

    /** Each wrong year in the place of the % must be refused, for a method that needs a year. */
    static void years(Check check, int promise, String call) {
        check.promise(promise, "throws IndexOutOfBoundsException if there is no such year");
        Run x = busy(check);
        for (int year : YEARS) {
            x.noIndex(call.replace("%", "" + year));
        }
    }

    /** A run on an object that keeps something of each kind. */
    static Run busy(Check check) {
        Run x = new Run(check);
        x.due("setMarketDay(5)", 0);
        x.due("setConsuls(4, 7, 8)", 1);
        x.due("setConsuls(3000, 8, 7)", 2);
        x.due("setCharacter(1, NEFASTUS)", 0);
        x.due("setCharacter(365, ENDOTERCISUS)", 2);
        return x;
    }
}
