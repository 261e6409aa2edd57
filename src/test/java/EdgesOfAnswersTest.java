/** The sentences of promises 16 to 20 that name a boundary case, one test each. */
public final class EdgesOfAnswersTest {
    /** 4, 4 and 1 at load 4: they have to be taken home one behind the other. */
    private static final String FOUR_PRESSES = "He004e109g0104g0104g1011";

    public static void main(String[] args) {
        all();
        Check.end();
    }

    static void all() {
        why();
        fewest();
        best();
        ifPressed();
        leftStanding();
    }

    // ---- promise 16

    private static void why() {
        Check.promise(16, "Returns the reason; 0 if the guest does.", EdgesOfAnswersTest::reasonOrZero);
        Check.promise(16, "Throws `IndexOutOfBoundsException` if there is no such guest", EdgesOfAnswersTest::whyNobody);
    }

    private static void reasonOrZero() {
        ButtonGuests x = Check.passed(3, "g5131g6221");
        Check.is("does", x.why(1), 0);
        Check.is("home", x.why(3), 1);
        Check.is("grudges", x.why(2), 2);
        Check.is("there", x.why(0), 3);
        Check.is("none is counted as refused", x.about(8), 0);
        x.rest();
        Check.is("does again behind a rest", x.why(2), 0);
    }

    private static void whyNobody() {
        ButtonGuests x = Check.loaded("Hg3121");
        Check.is("why(0)", x.why(0), 0);
        Check.noIndex("why(-1)", () -> x.why(-1));
        Check.noIndex("why(1)", () -> x.why(1));
        Check.noIndex("why(4)", () -> x.why(4));
        Check.noIndex("why(0) of nobody", () -> new ButtonGuests().why(0));
    }

    // ---- promise 17

    private static void fewest() {
        Check.promise(17, "Tells the fewest presses until all guests are home.", EdgesOfAnswersTest::fewestPresses);
        Check.promise(17, "0: told by trying all rows of one press, then all of two, and so on;",
            () -> zeroToFive(0));
        Check.promise(17, "1: told by all that there can be behind one press, then behind two, and so on, each only once",
            () -> zeroToFive(1));
        Check.promise(17, "0 to 5 (without rests)", EdgesOfAnswersTest::withoutRests);
        Check.promise(17, "0 without guests, too", EdgesOfAnswersTest::noneNeeded);
        Check.promise(17, "(the same for both ways)", EdgesOfAnswersTest::bothWays);
        Check.promise(17, "NONE if 5 do not suffice.", EdgesOfAnswersTest::fiveDoNotSuffice);
        Check.promise(17, "Throws `IllegalArgumentException` if way is neither 0 nor 1", EdgesOfAnswersTest::ways);
    }

    private static void fewest(String text, int due) {
        ButtonGuests x = Check.loaded(text);
        Check.is("fewest(0) of " + text, x.fewest(0), due);
        Check.is("fewest(1) of " + text, x.fewest(1), due);
    }

    private static void fewestPresses() {
        fewest("Hg2231g3231", 2);
        fewest("Hg2231g3231p0", 1);
        fewest("Hg2231g3231p0p1", 0);
        fewest("Hg1101g0231", -1);
        fewest("Hg5351g3531", 3);
        fewest("Hg5351g3531g0661", 3);
    }

    /**
     * 0 and 1 go from 1 to 0 one behind the other, 2 goes from 0 to 1 between them; 3, who goes from 0 to 2, is one
     * press more.
     */
    private static void zeroToFive(int way) {
        String text = FOUR_PRESSES + "g2021";
        for (String presses : new String[] {"", "p2", "p2p0", "p2p0p3", "p2p0p3p2", "p2p0p3p2p1"}) {
            Check.is("fewest(" + way + ") behind '" + presses + "'", Check.loaded(text + presses).fewest(way),
                5 - presses.length() / 2);
        }
        Check.is("fewest(" + way + ") without guests", new ButtonGuests().fewest(way), 0);
        Check.is("fewest(" + way + ") of one who never comes home", Check.loaded("Hg1231").fewest(way), -1);
        Check.is("fewest(" + way + "), 0 first", Check.loaded("Hg2231g3231").fewest(way), 2);
        Check.is("fewest(" + way + "), 1 first", Check.loaded("Hg3231g2231").fewest(way), 2);
        Check.is("fewest(" + way + ") with grudges", Check.loaded("He101g4241g2241p0").fewest(way), -1);
    }

    /** With setting 1 at 1, who was passed once does not press; a rest would help. */
    private static void withoutRests() {
        ButtonGuests x = Check.loaded("He101g4241g2241p0");
        Check.is("fewest(0)", x.fewest(0), -1);
        Check.is("fewest(1)", x.fewest(1), -1);
        x.rest();
        Check.is("fewest(0) behind a rest", x.fewest(0), 2);
        Check.is("fewest(1) behind a rest", x.fewest(1), 2);
    }

    private static void noneNeeded() {
        fewest("H", 0);
        fewest("Hg1231l0", 0);
        fewest("Hg1221", 0);
        fewest("Hg1001g1221g0001g6661", 0);
    }

    private static void bothWays() {
        String[] texts = {"H", "Hg1001", "Hg1231", "Hg2231g3231", "Hg5351g3531", "He101g4241g2241", "He101g4241g2241p0",
            FOUR_PRESSES, FOUR_PRESSES + "g2021", FOUR_PRESSES + "g2021p0", FOUR_PRESSES + "g2021p3",
            "Hg3051g5303p0p1", "He016g1634g6164g3304g0034p0p1", "Hg4261g2461g6241p2"};
        for (String text : texts) {
            ButtonGuests x = Check.loaded(text);
            Check.is("fewest(1) of " + text, x.fewest(1), x.fewest(0));
        }
    }

    /** A first guest brings the elevator to 1 and leaves: then it has to go on first, which makes six presses. */
    private static void fiveDoNotSuffice() {
        String six = "He004e109g1561p0l0g0104g0104g1011g2021";
        fewest(six, -1);
        fewest(six + "p3", 5);
        fewest(six + "p3p2", 4);
        fewest("Hg1021", -1);
        fewest("Hg1021g0331", -1);
    }

    private static void ways() {
        ButtonGuests x = Check.loaded("Hg2231g3231");
        Check.is("fewest(0)", x.fewest(0), 2);
        Check.is("fewest(1)", x.fewest(1), 2);
        Check.noArgument("fewest(-1)", () -> x.fewest(-1));
        Check.noArgument("fewest(2)", () -> x.fewest(2));
        Check.noArgument("fewest(2) without guests", () -> new ButtonGuests().fewest(2));
    }

    // ---- promise 18

    private static void best() {
        Check.promise(18, "Returns the guest who would press first in a row of fewest() presses", EdgesOfAnswersTest::first);
        Check.promise(18, "of several the lowest;", EdgesOfAnswersTest::theLowest);
        Check.promise(18, "NONE if fewest() is 0 or NONE.", EdgesOfAnswersTest::noBest);
    }

    private static void best(String text, int due) {
        Check.is("best() of " + text, Check.loaded(text).best(), due);
    }

    /** A longer row than that of fewest() may begin with a lower guest. */
    private static void first() {
        best("Hg2231g3231", 0);
        best("Hg3231g2231", 1);
        best("Hg0331g3231g2231", 2);
        best("Hg0331g0331g3231g2231", 3);
        best("Hg2231g3231p0", 1);
        ButtonGuests x = Check.loaded(FOUR_PRESSES + "g2021");
        for (int left = 5; left > 0; left--) {
            Check.is("fewest", x.fewest(0), left);
            Check.is("best() presses", x.press(x.best()), 0);
        }
        Check.is("all are home", x.about(5), 4);
    }

    private static void theLowest() {
        best("Hg2231g2231g3231", 0);
        best("Hg2231g2231g2231g3231", 0);
        best("Hg3331g2231g2231g3231", 1);
        best("Hg3231g2231g2231", 1);
        best("Hg5351g3531", 0);
        best("Hg3531g5351", 0);
    }

    private static void noBest() {
        best("H", -1);
        best("Hg1221", -1);
        best("Hg2231g3231p0p1", -1);
        best("Hg1231", -1);
        best("He101g4241g2241p0", -1);
        best("He004e109g1561p0l0g0104g0104g1011g2021", -1);
        best("He004e109g1561p0l0g0104g0104g1011g2021p3", 2);
    }

    // ---- promise 19

    private static void ifPressed() {
        Check.promise(19, "`n`: 1 to 5: how many presses", EdgesOfAnswersTest::howMany);
        Check.promise(19, "as n decimal digits, the highest digit first", EdgesOfAnswersTest::highestFirst);
        Check.promise(19, "(with zeros before it, if it has fewer digits)", EdgesOfAnswersTest::zerosBefore);
        Check.promise(19, "0: how many of them press;", EdgesOfAnswersTest::howManyPress);
        Check.promise(19, "1: the seconds of that;", EdgesOfAnswersTest::secondsOfThat);
        Check.promise(19, "2: the grudges of all guests together then;", EdgesOfAnswersTest::grudgesThen);
        Check.promise(19, "3: the guests who are home then;", EdgesOfAnswersTest::homeThen);
        Check.promise(19, "4: the floor of the elevator then", EdgesOfAnswersTest::floorThen);
        Check.promise(19, "(presses that are refused, and those of guests who are not there, are passed over)",
            EdgesOfAnswersTest::passedOver);
        Check.promise(19, "Throws `IllegalArgumentException` if n is out of range", EdgesOfAnswersTest::wrongN);
        Check.promise(19, "row is negative or has more than n digits", EdgesOfAnswersTest::wrongRow);
        Check.promise(19, "or what is not 0 to 4", EdgesOfAnswersTest::wrongWhat);
    }

    /** Buttons for 1, 2, 4 and 0; all wait at 6, where the elevator never comes: only its way differs. */
    private static ButtonGuests buttons() {
        return Check.loaded("Hg1651g2651g4651g0651");
    }

    private static void is(ButtonGuests x, int n, int row, int what, int due) {
        Check.is("ifPressed(" + n + ", " + row + ", " + what + ")", x.ifPressed(n, row, what), due);
    }

    private static void howMany() {
        ButtonGuests x = buttons();
        is(x, 1, 1, 0, 1);
        is(x, 2, 12, 0, 2);
        is(x, 3, 123, 0, 3);
        is(x, 4, 1231, 0, 4);
        is(x, 5, 12312, 0, 5);
        is(x, 5, 12312, 4, 4);
        Check.noArgument("n 0", () -> x.ifPressed(0, 0, 0));
        Check.noArgument("n 6", () -> x.ifPressed(6, 0, 0));
    }

    private static void highestFirst() {
        ButtonGuests x = buttons();
        is(x, 2, 12, 4, 4);
        is(x, 2, 21, 4, 2);
        is(x, 5, 12321, 4, 2);
        is(x, 5, 21230, 4, 1);
        is(x, 3, 120, 1, (2 + 2 + 3) * 2 + 15);
        is(x, 3, 210, 1, (4 + 2 + 1) * 2 + 15);
        is(x, 3, 102, 1, (2 + 1 + 3) * 2 + 15);
    }

    private static void zerosBefore() {
        ButtonGuests x = buttons();
        is(x, 1, 2, 0, 1);
        is(x, 2, 2, 0, 2);
        is(x, 2, 2, 1, (1 + 3) * 2 + 10);
        is(x, 5, 2, 0, 2);
        is(x, 5, 0, 0, 1);
        is(x, 5, 0, 4, 1);
        is(x, 3, 12, 0, 3);
        is(x, 2, 12, 0, 2);
    }

    private static void howManyPress() {
        ButtonGuests x = buttons();
        is(x, 1, 3, 0, 0);
        is(x, 2, 13, 0, 2);
        is(x, 5, 11111, 0, 1);
        is(x, 5, 1313, 0, 5);
        x.press(1);
        x.press(2);
        is(x, 1, 2, 0, 0);
        is(x, 1, 1, 0, 1);
        is(new ButtonGuests(), 5, 0, 0, 0);
    }

    private static void secondsOfThat() {
        ButtonGuests x = buttons();
        is(x, 1, 3, 1, 0);
        is(x, 1, 0, 1, 7);
        is(x, 5, 23232, 1, 5 * 4 * 2 + 25);
        x.rest();
        x.press(2);
        is(x, 1, 2, 1, 0);
        is(x, 1, 3, 1, 13);
        x.set(2, 9);
        is(x, 1, 3, 1, 4 * 9 + 5);
    }

    private static void grudgesThen() {
        ButtonGuests x = Check.passed(7, "g5131g6151");
        is(x, 1, 0, 2, 14);
        is(x, 1, 1, 2, 16);
        is(x, 2, 10, 2, 18);
        is(x, 3, 101, 2, 18);
        Check.is("the grudges now", x.about(10), 14);
        is(new ButtonGuests(), 1, 0, 2, 0);
    }

    private static void homeThen() {
        ButtonGuests x = Check.loaded("Hg2231g3231g0231g5661");
        is(x, 1, 2, 3, 1);
        is(x, 1, 0, 3, 1);
        is(x, 2, 1, 3, 4);
        is(x, 2, 10, 3, 1);
        Check.is("those at home now", x.about(5), 1);
        is(new ButtonGuests(), 1, 0, 3, 0);
    }

    private static void floorThen() {
        ButtonGuests x = Check.loaded("Hg6001g0521g6521g0521");
        is(x, 1, 0, 4, 0);
        is(x, 1, 2, 4, 6);
        is(x, 2, 23, 4, 0);
        is(x, 2, 32, 4, 6);
        x.press(2);
        is(x, 1, 9, 4, 6);
        is(x, 1, 3, 4, 0);
        Check.is("the floor now", x.about(1), 6);
    }

    private static void passedOver() {
        ButtonGuests x = Check.loaded("Hg1651g2651g4441");
        is(x, 5, 39405, 0, 1);
        is(x, 5, 39405, 4, 1);
        is(x, 5, 39415, 1, 9);
        is(x, 5, 22221, 0, 1);
        is(x, 5, 22221, 4, 2);
        is(x, 5, 11110, 0, 2);
        is(x, 5, 99999, 0, 0);
        is(x, 5, 99999, 1, 0);
        is(x, 1, 9, 3, 1);
        ButtonGuests y = Check.passed(2, "g5131");
        is(y, 2, 2, 0, 1);
        is(y, 2, 22, 0, 1);
        Check.is("none is counted as refused", x.about(8) + y.about(8), 0);
    }

    private static void wrongN() {
        ButtonGuests x = buttons();
        Check.noArgument("n -1", () -> x.ifPressed(-1, 0, 0));
        Check.noArgument("n 0", () -> x.ifPressed(0, 0, 0));
        Check.noArgument("n 6", () -> x.ifPressed(6, 0, 0));
        Check.noArgument("n of the greatest int", () -> x.ifPressed(Integer.MAX_VALUE, 0, 0));
        is(x, 1, 0, 0, 1);
        is(x, 5, 0, 0, 1);
    }

    private static void wrongRow() {
        ButtonGuests x = buttons();
        int most = 1;
        for (int n = 1; n <= 5; n++) {
            most *= 10;
            int digits = n;
            int more = most;
            is(x, n, more - 1, 0, 0);
            Check.noArgument("row " + more + " of " + n, () -> x.ifPressed(digits, more, 0));
            Check.noArgument("row -1 of " + n, () -> x.ifPressed(digits, -1, 0));
        }
        Check.noArgument("the greatest row", () -> x.ifPressed(5, Integer.MAX_VALUE, 0));
        Check.noArgument("the least row", () -> x.ifPressed(5, Integer.MIN_VALUE, 0));
    }

    private static void wrongWhat() {
        ButtonGuests x = buttons();
        is(x, 1, 0, 0, 1);
        is(x, 1, 0, 4, 1);
        Check.noArgument("what -1", () -> x.ifPressed(1, 0, -1));
        Check.noArgument("what 5", () -> x.ifPressed(1, 0, 5));
    }

    // ---- promise 20

    private static void leftStanding() {
        Check.promise(20, "Returns the guests who would wait at the floor of the button of this one behind the press, as a set",
            EdgesOfAnswersTest::wouldWait);
        Check.promise(20, "whatever the reasons not to press", EdgesOfAnswersTest::whateverTheReasons);
        Check.promise(20, "(0 if the elevator is there already)", EdgesOfAnswersTest::thereAlready);
        Check.promise(20, "Throws `IndexOutOfBoundsException` if there is no such guest", EdgesOfAnswersTest::standingNobody);
    }

    private static void standing(String text, int g, int due) {
        Check.is("leftStanding(" + g + ") of " + text, Check.loaded(text).leftStanding(g), due);
    }

    private static void wouldWait() {
        standing("Hg1501", 0, 0);
        standing("Hg1101", 0, 0);
        standing("Hg1104g1103g1102g1101", 0, 2 + 8);
        standing("He004g1104g1104g1104g1104", 3, 2 + 4 + 8);
        standing("He016g1104g1104g1104g1104", 3, 0);
        standing("He015g1104g1104g1104g1104", 0, 8);
        standing("He004g1503g1101g1204g1104", 0, 8);
        standing("He004g1124g2204g0204p0", 1, 4);
        standing("He004g1144g2204g0204p0", 1, 2 + 4);
        standing("He004g1221g1221g1104g1101", 0, 8);
        ButtonGuests x = Check.loaded("He004g1104g1101");
        Check.is("who is left standing", x.leftStanding(1), 2);
        x.press(1);
        Check.is("so it is", x.floorOf(1, 0), 2);
    }

    private static void whateverTheReasons() {
        standing("He004g1221g1104g1104", 0, 4);
        ButtonGuests x = Check.passed(3, "g1131");
        x.set(0, 4);
        x.come(0, 1, 5, 4);
        Check.is("one with grudges", x.why(2), 2);
        Check.is("nobody rides yet but 0", x.about(4), 1);
        Check.is("is asked nevertheless", x.leftStanding(2), 8);
        ButtonGuests y = Check.loaded("He004g1101g1121g2104p0");
        Check.is("one left standing", y.floorOf(1, 0), 4);
        y.come(1, 2, 2, 1);
        Check.is("home, and the elevator is there", y.leftStanding(3), 0);
    }

    private static void thereAlready() {
        standing("Hg0011", 0, 0);
        standing("He004g0014g0014", 0, 0);
        standing("He004g1104g1104p0", 1, 0);
        standing("He004g0001g0014g0014", 0, 0);
        standing("He004g0014g0014g1501p2", 0, 2);
    }

    private static void standingNobody() {
        ButtonGuests x = Check.loaded("Hg1231");
        Check.is("leftStanding(0)", x.leftStanding(0), 0);
        Check.noIndex("leftStanding(-1)", () -> x.leftStanding(-1));
        Check.noIndex("leftStanding(1)", () -> x.leftStanding(1));
        Check.noIndex("leftStanding(4)", () -> x.leftStanding(4));
        Check.noIndex("leftStanding(0) of nobody", () -> new ButtonGuests().leftStanding(0));
    }
}
