/** Promises 30 to 34: characters of days. */
public final class CharactersTest {
    private static final Check check = new Check();
    private static final int F = 0;
    private static final int N = 1;
    private static final int C = 2;
    private static final int EN = 3;
    /** The places of all kalends, nones and ides. */
    private static final int[] ANCHORS = {
        1, 5, 13, 32, 36, 44, 60, 66, 74, 91, 95, 103, 121, 127, 135, 152, 156, 164,
        182, 188, 196, 213, 217, 225, 244, 248, 256, 274, 280, 288, 305, 309, 317, 335, 339, 347,
    };

    public static void main(String[] args) {
        charactersAtFirst();
        setCharacter();
        wrongCharacters();
        forAllYears();
        characterOfPlaces();
        canVote();
        nextCourt();
        courtOfDoubledDays();
        courtAtTheEnd();
        noCourt();
        oneCourtAYear();
        votesAtFirst();
        votesOfAllOrNone();
        votesOfOneDay();
        Wrong.numbers(check, 31, "characterOf(%)");
        Wrong.numbers(check, 32, "canVote(%)");
        Wrong.numbers(check, 33, "nextCourt(%)");
        Wrong.years(check, 34, "votes(%)");
        check.end(30, 34);
    }

    private static boolean isAnchor(int place) {
        for (int anchor : ANCHORS) {
            if (anchor == place) {
                return true;
            }
        }
        return false;
    }

    private static void charactersAtFirst() {
        String sentence = "at first FASTUS if it is that of an anchor, and COMITIALIS otherwise";
        Run x = new Run(check);
        Run leap = new Run(check);
        Run y = new Run(check);
        for (int place = 1; place <= 365; place++) {
            int due = isAnchor(place) ? F : C;
            check.promise(31, sentence);
            x.due("characterOf(" + (place - 1) + ")", due);
            leap.due("characterOf(" + (1095 + place - (place > 55 ? 0 : 1)) + ")", due);
            check.promise(30, sentence);
            y.due("setCharacter(" + place + ", ENDOTERCISUS)", due);
        }
        leap.due("characterOf(1150)", C);
    }

    private static void setCharacter() {
        Run x = new Run(check);
        check.promise(30, "each character, at the first and the last place");
        for (int place : new int[] {1, 365}) {
            int before = place == 1 ? F : C;
            for (int character : new int[] {F, N, C, EN, EN, F, C, N}) {
                x.due("setCharacter(" + place + ", " + character + ")", before);
                x.due("characterOf(" + (place - 1) + ")", character);
                before = character;
            }
        }
        check.promise(30, "the places beside it keep theirs");
        x.due("characterOf(1)", C);
        x.due("characterOf(363)", C);
        x.due("characterOf(364)", N);
        x.due("characterOf(365)", N);
    }

    private static void wrongCharacters() {
        Run x = Wrong.busy(check);
        for (int place : Wrong.PLACES) {
            check.promise(30, "throws IndexOutOfBoundsException if there is no such place");
            for (int character = 0; character <= 3; character++) {
                x.noIndex("setCharacter(" + place + ", " + character + ")");
            }
            check.promise(30, "no such place decides ahead of the other line");
            x.noIndex("setCharacter(" + place + ", -1)");
            x.noIndex("setCharacter(" + place + ", 4)");
        }
        check.promise(30, "throws IllegalArgumentException if there is no such character");
        for (int character : Wrong.CHARACTERS) {
            for (int place : new int[] {1, 2, 55, 365}) {
                x.noArgument("setCharacter(" + place + ", " + character + ")");
            }
        }
        x.due("setCharacter(1, FASTUS)", N);
        x.due("setCharacter(2, FASTUS)", C);
        x.due("setCharacter(365, FASTUS)", EN);
    }

    private static void forAllYears() {
        check.promise(30, "for all years");
        Run x = new Run(check);
        x.due("setCharacter(1, NEFASTUS)", F);
        x.due("setCharacter(365, ENDOTERCISUS)", C);
        for (int first : new int[] {0, 365, 1095, 1461, 1095384}) {
            x.due("characterOf(" + first + ")", N);
        }
        for (int last : new int[] {364, 1094, 1460, 1095383, 1095749}) {
            x.due("characterOf(" + last + ")", EN);
        }
        check.promise(30, "for this object alone");
        new Run(check).due("characterOf(0)", F);
    }

    private static void characterOfPlaces() {
        check.promise(31, "that of its place: the doubled day and the day behind it have 55");
        Run x = new Run(check);
        x.due("setCharacter(55, NEFASTUS)", C);
        x.due("characterOf(1148)", C);
        x.due("characterOf(1149)", N);
        x.due("characterOf(1150)", N);
        x.due("characterOf(1151)", C);
        x.due("characterOf(54)", N);
        x.due("characterOf(55)", C);
        check.promise(31, "that of its place: February 26 of a leap year has 56");
        x.due("setCharacter(56, ENDOTERCISUS)", C);
        x.due("characterOf(1150)", N);
        x.due("characterOf(1151)", EN);
        x.due("characterOf(1152)", C);
        x.due("characterOf(55)", EN);
        check.promise(31, "that of its place: February 29 has 59, March 1 has 60");
        x.due("setCharacter(59, NEFASTUS)", C);
        x.due("characterOf(1154)", N);
        x.due("characterOf(1155)", F);
        check.promise(31, "a market day's is its place's too");
        x.due("characterOf(0)", F);
        x.due("characterOf(8)", C);
    }

    private static void canVote() {
        Run x = new Run(check);
        check.promise(32, "of a new object");
        x.no("canVote(0)");
        x.yes("canVote(1)");
        x.no("canVote(4)");
        check.promise(32, "on a market day no assembly votes, whatever its character");
        for (int character = F; character <= EN; character++) {
            x.due("setCharacter(9, " + character + ")", character == F ? C : character - 1);
            x.no("canVote(8)");
        }
        check.promise(32, "the character is COMITIALIS");
        for (int character = F; character <= EN; character++) {
            x.due("setCharacter(3, " + character + ")", character == F ? C : character - 1);
            if (character == C) {
                x.yes("canVote(2)");
            } else {
                x.no("canVote(2)");
            }
        }
        check.promise(32, "it is no market day, by the market day set last");
        x.due("setMarketDay(9)", 0);
        x.no("canVote(1)");
        x.no("canVote(9)");
        x.due("setCharacter(9, COMITIALIS)", EN);
        x.yes("canVote(8)");
        check.promise(32, "each of the doubled pair may be a market day alone");
        x.due("setMarketDay(1149)", 1);
        x.no("canVote(1149)");
        x.yes("canVote(1150)");
        x.due("setMarketDay(1150)", 5);
        x.yes("canVote(1149)");
        x.no("canVote(1150)");
        check.promise(32, "the last day");
        x.yes("canVote(1095749)");
        x.due("setMarketDay(1095749)", 6);
        x.no("canVote(1095749)");
    }

    private static void nextCourt() {
        Run x = new Run(check);
        check.promise(33, "itself too");
        x.due("nextCourt(0)", 0);
        x.due("nextCourt(1)", 1);
        x.due("nextCourt(1095749)", 1095749);
        check.promise(33, "on a market day too");
        x.due("nextCourt(8)", 8);
        check.promise(33, "FASTUS or COMITIALIS, and no other character");
        x.due("setCharacter(1, NEFASTUS)", F);
        x.due("nextCourt(0)", 1);
        x.due("setCharacter(2, ENDOTERCISUS)", C);
        x.due("nextCourt(0)", 2);
        x.due("setCharacter(3, FASTUS)", C);
        x.due("nextCourt(0)", 2);
        x.due("setCharacter(2, COMITIALIS)", EN);
        x.due("nextCourt(0)", 1);
        x.due("setCharacter(1, ENDOTERCISUS)", N);
        x.due("nextCourt(0)", 1);
        check.promise(33, "over the end of a year");
        x.due("setCharacter(365, NEFASTUS)", C);
        x.due("nextCourt(364)", 366);
        x.due("nextCourt(1460)", 1462);
    }

    private static void courtOfDoubledDays() {
        check.promise(33, "the doubled day has the character of the day behind it");
        Run x = new Run(check);
        x.due("nextCourt(1149)", 1149);
        x.due("setCharacter(55, NEFASTUS)", C);
        x.due("nextCourt(1148)", 1148);
        x.due("nextCourt(1149)", 1151);
        x.due("nextCourt(1150)", 1151);
        x.due("nextCourt(54)", 55);
    }

    private static void courtAtTheEnd() {
        Run x = new Run(check);
        check.promise(33, "NONE if there is none up to the last day");
        x.due("setCharacter(365, NEFASTUS)", C);
        x.due("nextCourt(1095748)", 1095748);
        x.due("nextCourt(1095749)", -1);
        x.due("setCharacter(364, ENDOTERCISUS)", C);
        x.due("nextCourt(1095747)", 1095747);
        x.due("nextCourt(1095748)", -1);
        check.promise(33, "the kalends behind the last day are no day");
        x.due("characterOf(0)", F);
        x.due("nextCourt(1095749)", -1);
        check.promise(33, "the last day itself");
        x.due("setCharacter(365, FASTUS)", N);
        x.due("nextCourt(1095748)", 1095749);
        x.due("nextCourt(1095749)", 1095749);
    }

    /** A run behind which no place has a court for the whole day. */
    private static Run withoutCourts() {
        Run x = new Run(check);
        for (int place = 1; place <= 365; place++) {
            x.due("setCharacter(" + place + ", " + (place % 2 == 0 ? N : EN) + ")",
                    isAnchor(place) ? F : C);
        }
        return x;
    }

    private static void noCourt() {
        check.promise(33, "NONE if there is none in any year");
        Run x = withoutCourts();
        for (int number : new int[] {0, 1, 54, 364, 1149, 1150, 1460, 500000, 1095384, 1095749}) {
            x.due("nextCourt(" + number + ")", -1);
        }
    }

    private static void oneCourtAYear() {
        check.promise(33, "the first day behind a year without courts but one");
        Run x = withoutCourts();
        x.due("setCharacter(54, FASTUS)", N);
        x.due("nextCourt(0)", 53);
        x.due("nextCourt(53)", 53);
        x.due("nextCourt(54)", 418);
        x.due("nextCourt(784)", 1148);
        x.due("nextCourt(1148)", 1148);
        // From February 24 of a leap year on, its February 23 is 365 days behind in the next.
        x.due("nextCourt(1149)", 1514);
        x.due("nextCourt(1150)", 1514);
        // February 23 of the last year.
        x.due("nextCourt(1095437)", 1095437);
        x.due("nextCourt(1095438)", -1);
        check.promise(33, "the doubled day, as the first of two that come behind");
        x.due("setCharacter(54, NEFASTUS)", F);
        x.due("setCharacter(55, COMITIALIS)", EN);
        x.due("nextCourt(785)", 1149);
        x.due("nextCourt(1149)", 1149);
        x.due("nextCourt(1150)", 1150);
        x.due("nextCourt(1151)", 1515);
        check.promise(33, "the last day of a leap year, from its first one on");
        x.due("setCharacter(55, NEFASTUS)", C);
        x.due("setCharacter(365, FASTUS)", EN);
        x.due("nextCourt(1095)", 1460);
        x.due("nextCourt(1461)", 1825);
        x.due("nextCourt(1095384)", 1095749);
        check.promise(33, "the first day, from the second one of a leap year on");
        x.due("setCharacter(365, NEFASTUS)", F);
        x.due("setCharacter(1, FASTUS)", EN);
        x.due("nextCourt(1096)", 1461);
        x.due("nextCourt(1)", 365);
        x.due("nextCourt(1095385)", -1);
    }

    private static void votesAtFirst() {
        Run x = new Run(check);
        check.promise(34, "of a new object");
        // Of 365 days 36 are anchors and 46 are markets, and 5 are both.
        x.due("votes(1)", 288);
        x.due("votes(2)", 291);
        x.due("votes(4)", 288);
        check.promise(34, "each day of a year, as canVote tells");
        for (int year : new int[] {1, 2, 3, 4, 5, 2999, 3000}) {
            new Run(check).due("votes(" + year + ")", countedVotes(year));
        }
    }

    private static int countedVotes(int year) {
        RomanCalendar x = new RomanCalendar();
        int first = x.number(year, 1, 1);
        int last = x.number(year, 12, 31);
        int count = 0;
        for (int day = first; day <= last; day++) {
            if (x.canVote(day)) {
                count++;
            }
        }
        return count;
    }

    private static void votesOfAllOrNone() {
        Run x = new Run(check);
        for (int place = 1; place <= 365; place++) {
            x.due("setCharacter(" + place + ", FASTUS)", isAnchor(place) ? F : C);
        }
        check.promise(34, "0 if no place is COMITIALIS");
        x.due("votes(1)", 0);
        x.due("votes(4)", 0);
        x.due("votes(3000)", 0);
        check.promise(34, "both days of a doubled pair count");
        x.due("setCharacter(55, COMITIALIS)", F);
        x.due("votes(1)", 1);
        x.due("votes(4)", 2);
        check.promise(34, "the one of a doubled pair that is no market day counts");
        x.due("setMarketDay(1149)", 0);
        x.due("votes(4)", 1);
        x.due("setMarketDay(1150)", 5);
        x.due("votes(4)", 1);
        x.due("setMarketDay(1151)", 6);
        x.due("votes(4)", 2);
        check.promise(34, "a market day does not count");
        x.due("setMarketDay(54)", 7);
        x.due("votes(1)", 0);
        Run y = new Run(check);
        for (int anchor : ANCHORS) {
            y.due("setCharacter(" + anchor + ", COMITIALIS)", F);
        }
        check.promise(34, "all places are COMITIALIS: all days but the market days");
        for (int market = 0; market < 8; market++) {
            y.due("setMarketDay(" + market + ")", market == 0 ? 0 : market - 1);
            // The years begin with days of the remainders 0, 7 and 0, and are 8 times 45 and
            // 5, 6 and 6 days long.
            y.due("votes(1)", 365 - (market <= 4 ? 46 : 45));
            y.due("votes(4)", 366 - (market == 5 || market == 6 ? 45 : 46));
            y.due("votes(3000)", 366 - (market <= 5 ? 46 : 45));
        }
    }

    private static void votesOfOneDay() {
        Run x = new Run(check);
        for (int place = 1; place <= 365; place++) {
            x.due("setCharacter(" + place + ", FASTUS)", isAnchor(place) ? F : C);
        }
        x.due("setMarketDay(3)", 0);
        check.promise(34, "the first day of a year counts");
        x.due("setCharacter(1, COMITIALIS)", F);
        for (int year : new int[] {1, 2, 4, 5, 3000}) {
            x.due("votes(" + year + ")", 1);
        }
        x.due("setCharacter(1, FASTUS)", C);
        check.promise(34, "the last day of a year counts");
        x.due("setCharacter(365, COMITIALIS)", F);
        for (int year : new int[] {1, 2, 4, 5, 3000}) {
            x.due("votes(" + year + ")", 1);
        }
    }
}
