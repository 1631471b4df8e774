/** Promises 30 to 34: characters of days. */
public final class CharactersTest {
    private static final Check check = new Check();
    private static final int F = RomanCalendar.FASTUS;
    private static final int N = RomanCalendar.NEFASTUS;
    private static final int C = RomanCalendar.COMITIALIS;
    private static final int EN = RomanCalendar.ENDOTERCISUS;

    public static void main(String[] args) {
        firstCharacters();
        setCharacters();
        wrongCharacters();
        voting();
        courts();
        noCourts();
        votes();
        wrongArguments();
        check.end();
    }

    private static void firstCharacters() {
        RomanCalendar x = new RomanCalendar();
        for (int month = 1; month <= 12; month++) {
            boolean isLong = month == 3 || month == 5 || month == 7 || month == 10;
            int nones = isLong ? 7 : 5;
            for (int day : new int[] {1, 2, nones - 1, nones, nones + 1, nones + 7, nones + 8,
                nones + 9}) {
                boolean isAnchor = day == 1 || day == nones || day == nones + 8;
                check.equal("the first character of " + month + "-" + day,
                        x.characterOf(x.number(4, month, day)), isAnchor ? F : C);
            }
        }
    }

    private static void setCharacters() {
        RomanCalendar x = new RomanCalendar();
        check.equal("setCharacter(1, N)", x.setCharacter(1, N), F);
        check.equal("setCharacter(1, EN)", x.setCharacter(1, EN), N);
        check.equal("setCharacter(365, F)", x.setCharacter(365, F), C);
        check.equal("setCharacter(55, EN)", x.setCharacter(55, EN), C);
        check.equal("characterOf(0)", x.characterOf(0), EN);
        check.equal("characterOf(365)", x.characterOf(365), EN);
        check.equal("characterOf(1)", x.characterOf(1), C);
        check.equal("characterOf(1095749)", x.characterOf(1095749), F);
        check.equal("characterOf(54)", x.characterOf(54), EN);
        check.equal("characterOf(55)", x.characterOf(55), C);
        check.equal("characterOf(1148)", x.characterOf(1148), C);
        check.equal("characterOf(1149)", x.characterOf(1149), EN);
        check.equal("characterOf(1150)", x.characterOf(1150), EN);
        check.equal("characterOf(1151)", x.characterOf(1151), C);
        check.equal("another object's", new RomanCalendar().characterOf(0), F);
    }

    private static void wrongCharacters() {
        RomanCalendar x = new RomanCalendar();
        for (int place : new int[] {0, 366, -1, Integer.MIN_VALUE, Integer.MAX_VALUE}) {
            check.noIndex("setCharacter(" + place + ", N)", () -> x.setCharacter(place, N));
            check.noIndex("setCharacter(" + place + ", 4)", () -> x.setCharacter(place, 4));
        }
        for (int character : new int[] {-1, 4, Integer.MIN_VALUE, Integer.MAX_VALUE}) {
            check.noArgument("setCharacter(2, " + character + ")",
                    () -> x.setCharacter(2, character));
        }
        check.equal("setCharacter(2, N) after them", x.setCharacter(2, N), C);
        check.equal("votes(2) after them", new RomanCalendar().votes(2) - x.votes(2), 1);
    }

    private static void voting() {
        RomanCalendar x = new RomanCalendar();
        check.no("canVote(0)", x.canVote(0));
        check.yes("canVote(1)", x.canVote(1));
        check.no("canVote(4), the nones", x.canVote(4));
        check.no("canVote(8), a market", x.canVote(8));
        x.setMarketDay(1);
        check.no("canVote(1), a market then", x.canVote(1));
        check.yes("canVote(8) then", x.canVote(8));
        for (int character : new int[] {F, N, EN}) {
            x.setCharacter(3, character);
            check.no("canVote(2) with " + character, x.canVote(2));
        }
        x.setCharacter(3, C);
        check.yes("canVote(2) with C", x.canVote(2));
        check.yes("canVote(1149)", x.canVote(1149));
        check.yes("canVote(1150)", x.canVote(1150));
        check.yes("canVote(1095749)", x.canVote(1095749));
    }

    private static void courts() {
        RomanCalendar x = new RomanCalendar();
        check.equal("nextCourt(0)", x.nextCourt(0), 0);
        // A market keeps no court from its sitting.
        check.equal("nextCourt(8)", x.nextCourt(8), 8);
        x.setCharacter(1, N);
        check.equal("nextCourt(0) then", x.nextCourt(0), 1);
        x.setCharacter(2, EN);
        check.equal("nextCourt(0) at last", x.nextCourt(0), 2);
        x.setCharacter(55, N);
        check.equal("nextCourt(1149)", x.nextCourt(1149), 1151);
        check.equal("nextCourt(1150)", x.nextCourt(1150), 1151);
        x.setCharacter(365, N);
        check.equal("nextCourt(364)", x.nextCourt(364), 367);
        check.equal("nextCourt(1095749)", x.nextCourt(1095749), -1);
        check.equal("nextCourt(1095748)", x.nextCourt(1095748), 1095748);
        // The kalends behind the last day are no day of the calendar.
        x.setCharacter(1, F);
        check.equal("nextCourt(1095749) then", x.nextCourt(1095749), -1);
    }

    private static void noCourts() {
        RomanCalendar x = new RomanCalendar();
        for (int place = 1; place <= 365; place++) {
            x.setCharacter(place, place % 2 == 0 ? N : EN);
        }
        check.equal("nextCourt(0)", x.nextCourt(0), -1);
        check.equal("nextCourt(1149)", x.nextCourt(1149), -1);
        check.equal("nextCourt(1095749)", x.nextCourt(1095749), -1);
        check.equal("votes(4)", x.votes(4), 0);
        x.setCharacter(54, F);
        // From February 24 of a leap year on, its February 23 is 365 days behind in the next.
        check.equal("nextCourt(53)", x.nextCourt(53), 53);
        check.equal("nextCourt(54)", x.nextCourt(54), 418);
        check.equal("nextCourt(1148)", x.nextCourt(1148), 1148);
        check.equal("nextCourt(1149)", x.nextCourt(1149), 1514);
        check.equal("nextCourt(1150)", x.nextCourt(1150), 1514);
        int last = x.number(3000, 2, 23);
        check.equal("nextCourt of the last one", x.nextCourt(last), last);
        check.equal("nextCourt behind the last one", x.nextCourt(last + 1), -1);
    }

    private static void votes() {
        RomanCalendar x = new RomanCalendar();
        // Of 365 days 36 are anchors and 46 are markets, and 5 are both.
        check.equal("votes(1)", x.votes(1), 288);
        check.equal("votes(2)", x.votes(2), 291);
        for (int year : new int[] {1, 2, 3, 4, 5, 2999, 3000}) {
            check.equal("votes(" + year + ")", x.votes(year), countedVotes(x, year));
        }
        RomanCalendar y = new RomanCalendar();
        for (int place = 1; place <= 365; place++) {
            y.setCharacter(place, C);
        }
        check.equal("votes(1) with all", y.votes(1), 365 - 46);
        check.equal("votes(2) with all", y.votes(2), 365 - 46);
        check.equal("votes(4) with all", y.votes(4), 366 - 46);
        y.setCharacter(55, N);
        check.equal("votes(1) without 55", y.votes(1), 365 - 46 - 1);
        check.equal("votes(4) without 55", y.votes(4), 366 - 46 - 2);
        y.setMarketDay(1095749);
        // The doubled day 1149 is one of the 45 markets then.
        check.equal("votes(4) with other markets", y.votes(4), 366 - 45 - 1);
    }

    private static int countedVotes(RomanCalendar x, int year) {
        int first = x.number(year, 1, 1);
        int last = x.number(year, 12, 31);
        RomanCalendar y = new RomanCalendar();
        int count = 0;
        for (int day = first; day <= last; day++) {
            if (y.canVote(day)) {
                count++;
            }
        }
        return count;
    }

    private static void wrongArguments() {
        RomanCalendar x = new RomanCalendar();
        for (int number : Check.wrongNumbers()) {
            check.noIndex("characterOf(" + number + ")", () -> x.characterOf(number));
            check.noIndex("canVote(" + number + ")", () -> x.canVote(number));
            check.noIndex("nextCourt(" + number + ")", () -> x.nextCourt(number));
        }
        for (int year : Check.wrongYears()) {
            check.noIndex("votes(" + year + ")", () -> x.votes(year));
        }
    }
}
