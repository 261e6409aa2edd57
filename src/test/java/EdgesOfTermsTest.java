/** The sentences under "Terms" about guests, the elevator, pressing and settings that name a boundary case, one test each. */
public final class EdgesOfTermsTest {
    public static void main(String[] args) {
        all();
        Check.end();
    }

    static void all() {
        guestsAndElevator();
        reasons();
        travel();
        doors();
        rests();
        settings();
        Check.sentence("What it is: An object is used for at most 512 calls after it has been made", EdgesOfTermsTest::calls512);
    }

    private static void calls512() {
        ButtonGuests x = new ButtonGuests();
        for (int i = 0; i < 511; i++) {
            x.rest();
        }
        Check.is("the 512th call", x.about(6), 511 * 30);
        ButtonGuests y = new ButtonGuests();
        Check.write(y, "Hg4061g0151g2341g6221" + "b".repeat(99));
        for (int i = 121; i <= 512; i++) {
            Check.is("load() as call " + i, y.load(), 0);
        }
    }

    // ---- guests and the elevator

    private static void guestsAndElevator() {
        Check.term("There are 7 floors, numbered from 0.", EdgesOfTermsTest::sevenFloors);
        Check.term("The elevator is at a floor, at first 0.", EdgesOfTermsTest::atFirst0);
        Check.term("At most 4 guests are numbered from 0;", EdgesOfTermsTest::fourGuests);
        Check.term("when one leaves, those with greater numbers get numbers that are 1 less.", EdgesOfTermsTest::oneLess);
        Check.term("a weight of 1 to 4", EdgesOfTermsTest::weights);
        Check.term("a state: 0 waiting at a floor, 1 riding, 2 home (at the home floor)", EdgesOfTermsTest::states);
        Check.term("grudges, 0 to 9, at first 0", EdgesOfTermsTest::grudges);
        Check.term("A guest who comes to the home floor is home at once, otherwise waits where the guest came.",
            EdgesOfTermsTest::homeAtOnce);
        Check.term("The load is the weight of all who ride.", EdgesOfTermsTest::load);
    }

    private static void sevenFloors() {
        ButtonGuests x = new ButtonGuests();
        Check.is("come to the lowest floor", x.come(0, 0, 0, 1), 0);
        Check.is("come to the highest floor", x.come(6, 6, 6, 1), 1);
        Check.is("home at the lowest floor", x.floorOf(0, 1), 1);
        Check.is("home at the highest floor", x.floorOf(6, 1), 2);
        Check.noIndex("a floor below 0", () -> x.floorOf(-1, 1));
        Check.noIndex("an eighth floor", () -> x.floorOf(7, 1));
        Check.noIndex("come to an eighth floor", () -> x.come(0, 7, 0, 1));
    }

    private static void atFirst0() {
        ButtonGuests x = Check.loaded("Hg6051p0");
        Check.is("the elevator behind a press", x.about(1), 6);
        x.clearText();
        x.append('H');
        x.load();
        Check.is("the elevator behind load()", x.about(1), 0);
        Check.is("the elevator of a new object", new ButtonGuests().about(1), 0);
    }

    private static void fourGuests() {
        ButtonGuests x = new ButtonGuests();
        for (int g = 0; g < 4; g++) {
            Check.is("guest " + g, x.come(1, 2, 3, 1), g);
        }
        Check.noState("a fifth", () -> x.come(1, 2, 3, 1));
        Check.is("guests", x.about(0), 4);
        Check.is("the last one", x.guestOf(3, 4), 2);
        Check.noIndex("guest 4", () -> x.guestOf(4, 4));
    }

    /** Whoever leaves: the others keep their order, and what belongs to them. */
    private static void oneLess() {
        for (int gone = 0; gone < 4; gone++) {
            ButtonGuests x = Check.loaded("Hg2061g0461g5131g3322p0p1p0");
            int[][] before = new int[4][8];
            for (int g = 0; g < 4; g++) {
                for (int what = 0; what < 8; what++) {
                    before[g][what] = x.guestOf(g, what);
                }
            }
            x.leave(gone);
            Check.is("guests behind leave(" + gone + ")", x.about(0), 3);
            for (int g = 0; g < 3; g++) {
                for (int what = 0; what < 8; what++) {
                    Check.is("guestOf(" + g + ", " + what + ") behind leave(" + gone + ")",
                        x.guestOf(g, what), before[g < gone ? g : g + 1][what]);
                }
            }
        }
    }

    private static void weights() {
        ButtonGuests x = new ButtonGuests();
        x.come(1, 2, 3, 1);
        x.come(1, 2, 3, 4);
        Check.is("the least weight", x.guestOf(0, 2), 1);
        Check.is("the greatest weight", x.guestOf(1, 2), 4);
        Check.noArgument("no weight", () -> x.come(1, 2, 3, 0));
        Check.noArgument("one more", () -> x.come(1, 2, 3, 5));
    }

    private static void states() {
        ButtonGuests x = Check.loaded("Hg3151g5121");
        Check.is("waiting", x.guestOf(0, 3), 0);
        x.come(1, 4, 2, 1);
        x.press(2);
        Check.is("riding", x.guestOf(0, 3), 1);
        Check.is("riding, the other", x.guestOf(1, 3), 1);
        Check.is("where one is who rides", x.guestOf(0, 4), 1);
        x.press(1);
        Check.is("home", x.guestOf(0, 3), 2);
        x.press(2);
        Check.is("at the home floor, not where the elevator goes", x.guestOf(0, 4), 5);
        Check.is("the elevator went on", x.about(1), 1);
    }

    private static void grudges() {
        ButtonGuests x = Check.passed(0, "g5131");
        Check.is("at first", x.guestOf(2, 5), 0);
        x.rest();
        Check.is("not below 0", x.guestOf(2, 5), 0);
        Check.is("the most", Check.passed(9, "g5131").guestOf(2, 5), 9);
        Check.is("not above 9", Check.passed(10, "g5131").guestOf(2, 5), 9);
    }

    private static void homeAtOnce() {
        ButtonGuests x = new ButtonGuests();
        x.come(1, 3, 3, 1);
        x.come(1, 3, 4, 1);
        x.come(1, 3, 2, 1);
        x.come(1, 0, 0, 1);
        Check.is("who comes to the home floor", x.guestOf(0, 3), 2);
        Check.is("who comes below the home floor", x.guestOf(1, 3), 0);
        Check.is("who comes above the home floor", x.guestOf(2, 3), 0);
        Check.is("who comes to the home floor where the elevator is", x.guestOf(3, 3), 2);
        Check.is("where the others wait", x.floorOf(3, 0), 2 + 4);
        ButtonGuests y = Check.loaded("Hg1021");
        Check.is("who comes where the elevator is", y.guestOf(0, 3), 0);
    }

    private static void load() {
        Check.is("nobody", new ButtonGuests().about(2), 0);
        ButtonGuests x = Check.loaded("He016g1104g1104g1104g1104");
        Check.is("nobody rides", x.about(2), 0);
        x.press(0);
        Check.is("all ride, all of the greatest weight", x.about(2), 16);
        ButtonGuests y = Check.loaded("Hg1101g1222g3143p0");
        Check.is("one is home, one and one ride", y.about(2), 1 + 3);
        y.leave(2);
        Check.is("one rides", y.about(2), 1);
        ButtonGuests z = Check.loaded("Hg1101g0231g1143p0");
        Check.is("one waits", z.about(2), 1 + 3);
    }

    // ---- why a guest does not press

    private static void reasons() {
        Check.term("A guest does not press for the first of these reasons that is so", EdgesOfTermsTest::firstReason);
        Check.term("1: the guest is home;", EdgesOfTermsTest::reasonHome);
        Check.term("2: the guest has setting 1 grudges or more;", EdgesOfTermsTest::reasonGrudges);
        Check.term("3: the elevator is at the floor of the button.", EdgesOfTermsTest::reasonThere);
    }

    /** One at home has no grudges, so the first two reasons are never both so. */
    private static void firstReason() {
        ButtonGuests x = Check.loaded("Hg0221");
        Check.is("home, and the elevator is there", x.why(0), 1);
        ButtonGuests y = Check.passed(4, "g0131");
        Check.is("grudges, and the elevator is there", y.why(2), 2);
        Check.is("so says press()", y.press(2), 2);
    }

    private static void reasonHome() {
        ButtonGuests x = Check.loaded("Hg2331g1011g1161p2");
        Check.is("one who came home at once", x.why(0), 1);
        Check.is("one who waits", x.why(1), 3);
        x.come(0, 4, 5, 1);
        x.press(3);
        Check.is("one who rides", x.why(1), 0);
        x.press(1);
        Check.is("one who came home by the elevator", x.press(1), 1);
    }

    private static void reasonGrudges() {
        ButtonGuests x = Check.passed(3, "g5131");
        Check.is("as many as the setting at first", x.why(2), 2);
        x.set(1, 4);
        Check.is("one less", x.why(2), 0);
        x.set(1, 2);
        Check.is("one more", x.why(2), 2);
        ButtonGuests y = Check.passed(8, "g5131");
        y.set(1, 9);
        Check.is("8 of 9", y.why(2), 0);
        y.press(0);
        Check.is("9 of 9", y.why(2), 2);
        ButtonGuests z = Check.passed(0, "g5131");
        z.set(1, 1);
        Check.is("0 of 1", z.why(2), 0);
        z.press(0);
        Check.is("1 of 1", z.why(2), 2);
    }

    private static void reasonThere() {
        ButtonGuests x = Check.loaded("Hg0231g1251");
        Check.is("the elevator is there", x.why(0), 3);
        Check.is("one floor beside", x.why(1), 0);
        x.press(1);
        Check.is("the elevator is no longer there", x.why(0), 0);
        Check.is("the elevator came there", x.why(1), 3);
    }

    // ---- the way

    private static void travel() {
        Check.term("The elevator goes to the floor of the button.", EdgesOfTermsTest::goes);
        Check.term("For each floor that it passes (those between both, in order)", EdgesOfTermsTest::passes);
        Check.term("each guest who waits there, and each one who rides and whose home floor it is, gets a grudge more",
            EdgesOfTermsTest::whoIsPassed);
        Check.term("gets a grudge more (9 stay 9)", EdgesOfTermsTest::nineStayNineOnTheWay);
        Check.term("It takes setting 2 seconds for each floor that it goes.", EdgesOfTermsTest::seconds);
    }

    private static void goes() {
        ButtonGuests x = Check.loaded("Hg6351g0351g1351");
        x.press(0);
        Check.is("from the lowest to the highest", x.about(1), 6);
        x.press(1);
        Check.is("from the highest to the lowest", x.about(1), 0);
        x.press(2);
        Check.is("one floor", x.about(1), 1);
        Check.is("floors", x.about(9), 6 + 6 + 1);
    }

    private static void has(ButtonGuests x, String when, int... grudges) {
        for (int g = 0; g < grudges.length; g++) {
            Check.is("grudges of guest " + g + ", " + when, x.guestOf(g, 5), grudges[g]);
        }
    }

    /** The first guest only brings the elevator to 1, where nobody may have got in. */
    private static void passes() {
        ButtonGuests x = Check.loaded("He109g1651p0l0g4101g1201g2301g5461");
        x.press(0);
        has(x, "up from 1 to 4", 0, 1, 1, 0);
        Check.is("one gets in where it stops", x.guestOf(3, 3), 1);
        x.press(1);
        has(x, "down from 4 to 1", 0, 2, 2, 0);
        Check.is("one gets in where it stops below", x.guestOf(0, 3), 1);
        x.press(2);
        has(x, "up to the next floor", 0, 0, 2, 0);
        x.leave(1);
        x.press(2);
        has(x, "up from 2 to 5", 0, 3, 0);
        ButtonGuests y = Check.loaded("Hg1101g0101g0201p0");
        has(y, "up from 0 to 1", 0, 0, 0);
        y.leave(0);
        y.press(0);
        has(y, "down from 1 to 0", 0, 0);
        has(Check.loaded("He004g4404g4401p0"), "left standing where it stops above, not passed there", 0, 1);
        has(Check.loaded("He004g5564g2201p0p1"), "passed, then left standing where it stops below", 0, 2);
    }

    private static void whoIsPassed() {
        ButtonGuests x = Check.loaded("Hg5061g0331g0231g0031p0");
        Check.is("one who calls from where it starts", x.guestOf(0, 5), 0);
        Check.is("one who is home where it passes", x.guestOf(1, 5), 0);
        Check.is("one who waits where it passes", x.guestOf(2, 5), 1);
        Check.is("one who waits elsewhere, home where it passes", x.guestOf(3, 5), 0);
        ButtonGuests y = Check.loaded("Hg2031g0261p0p1g5061");
        Check.is("one rides to 3", y.guestOf(0, 3), 1);
        Check.is("one rides to 6", y.guestOf(1, 3), 1);
        y.press(2);
        Check.is("one who rides, home where it passes", y.guestOf(0, 5), 1);
        Check.is("one who rides, came where it passes", y.guestOf(1, 5), 0);
        Check.is("one who waits where it starts", y.guestOf(2, 5), 0);
        ButtonGuests z = Check.loaded("Hg5261p0");
        Check.is("one who calls it past where that one waits", z.guestOf(0, 5), 1);
    }

    private static void nineStayNineOnTheWay() {
        Check.is("eight", Check.passed(8, "g5131").guestOf(2, 5), 8);
        Check.is("nine", Check.passed(9, "g5131").guestOf(2, 5), 9);
        Check.is("ten times", Check.passed(10, "g5131").guestOf(2, 5), 9);
        Check.is("twelve times", Check.passed(12, "g5131").guestOf(2, 5), 9);
        ButtonGuests x = Check.passed(11, "g5011");
        Check.is("one who rides", x.guestOf(2, 3), 1);
        Check.is("nine of one who rides", x.guestOf(2, 5), 9);
        x.press(1);
        Check.is("ten times, one who rides", x.guestOf(2, 5), 9);
    }

    private static void seconds() {
        Check.is("a floor of a second", Check.loaded("He201g1051p0").about(6), 1 + 5);
        Check.is("six floors of nine seconds", Check.loaded("He209g6051p0").about(6), 6 * 9 + 5);
        Check.is("six floors of two seconds", Check.loaded("Hg6051p0").about(6), 6 * 2 + 5);
        Check.is("six floors up, five down", Check.loaded("Hg6051g1051p0p1").about(6), 6 * 2 + 5 + 5 * 2 + 5);
    }

    // ---- the doors

    private static void doors() {
        Check.term("The doors take 5 seconds.", EdgesOfTermsTest::doorSeconds);
        Check.term("Those who ride, and whose home floor this is, get out: they are home, without grudges.",
            EdgesOfTermsTest::getOut);
        Check.term("Those who wait there, one after the other by numbers", EdgesOfTermsTest::byNumbers);
        Check.term("(a lighter one may still get in behind one who could not)", EdgesOfTermsTest::lighterOne);
        Check.term("get in and ride, without grudges", EdgesOfTermsTest::getInWithoutGrudges);
        Check.term("if the load does not become more than setting 0", EdgesOfTermsTest::notMoreThanTheLoad);
        Check.term("otherwise they get a grudge more.", EdgesOfTermsTest::leftStanding);
    }

    private static void doorSeconds() {
        Check.is("nobody gets in or out", Check.loaded("He201g1051p0").about(6), 1 + 5);
        Check.is("four get in", Check.loaded("He201g1101g1101g1101g1101p0").about(6), 1 + 5);
        ButtonGuests x = Check.loaded("He201g1121g2141p0p1");
        Check.is("one gets in, one gets out", x.about(6), 1 + 5 + 1 + 5);
    }

    private static void getOut() {
        ButtonGuests x = Check.passed(11, "g1011");
        Check.is("nine grudges", x.guestOf(2, 5), 9);
        x.come(1, 5, 1, 1);
        x.press(3);
        Check.is("who rode is home", x.guestOf(2, 3), 2);
        Check.is("without grudges", x.guestOf(2, 5), 0);
        Check.is("who rides to another floor", x.guestOf(0, 3), 1);
        Check.is("who waits, home at this floor", x.guestOf(3, 3), 0);
        Check.is("came home", x.about(11), 1);
        ButtonGuests y = Check.loaded("He016g1014g0014g0014g0014p0p1");
        Check.is("four ride", y.about(4), 4);
        y.press(0);
        Check.is("four get out", y.about(5), 4);
        Check.is("four came home", y.about(11), 4);
        Check.is("no load is left", y.about(2), 0);
        ButtonGuests z = Check.loaded("He004g1124g2204p0p1");
        Check.is("one gets out", z.guestOf(0, 3), 2);
        Check.is("which makes room for the next", z.guestOf(1, 3), 1);
    }

    private static void byNumbers() {
        ButtonGuests x = Check.loaded("Hg1104g1103g1102p0");
        Check.is("0 first, then 2: 1 is too heavy", x.floorOf(1, 0), 2);
        ButtonGuests y = Check.loaded("Hg1103g1102g1104p0");
        Check.is("0 and 1, then 2 is too heavy", y.floorOf(1, 0), 4);
        ButtonGuests z = Check.loaded("Hg1104g1103g1102l0g1104p1");
        Check.is("by the numbers behind leave", z.floorOf(1, 0), 4);
        Check.is("who waits elsewhere does not get in", Check.loaded("Hg1051g1251g1151p0").about(4), 1);
    }

    private static void lighterOne() {
        ButtonGuests x = Check.loaded("He004g1103g1102g1101p0");
        Check.is("2 could not", x.guestOf(1, 3), 0);
        Check.is("1 gets in behind", x.guestOf(2, 3), 1);
        ButtonGuests y = Check.loaded("He004g1103g1102g1104g1101p0");
        Check.is("two could not", y.floorOf(1, 0), 2 + 4);
        Check.is("1 gets in behind both", y.guestOf(3, 3), 1);
    }

    private static void getInWithoutGrudges() {
        ButtonGuests x = Check.passed(9, "g5131");
        x.come(1, 5, 6, 1);
        x.press(3);
        Check.is("who waited rides", x.guestOf(2, 3), 1);
        Check.is("without grudges", x.guestOf(2, 5), 0);
    }

    private static void notMoreThanTheLoad() {
        Check.is("4 of 4", Check.loaded("He004g1104p0").about(2), 4);
        Check.is("5 of 4", Check.loaded("He004g1104g1101p0").about(2), 4);
        Check.is("6 of 6", Check.loaded("Hg1104g1102p0").about(2), 6);
        Check.is("7 of 6", Check.loaded("Hg1104g1103p0").about(2), 4);
        Check.is("16 of 16", Check.loaded("He016g1104g1104g1104g1104p0").about(2), 16);
        Check.is("16 of 15", Check.loaded("He015g1104g1104g1104g1104p0").about(2), 12);
    }

    /** 0 rides, so that 2, who weighs 4 of 4, has no place at 2, where the elevator stops at every other press. */
    private static void leftStanding() {
        ButtonGuests x = Check.passed(2, "");
        x.set(0, 4);
        x.come(5, 2, 3, 4);
        for (int stops = 1; stops <= 11; stops++) {
            x.press(0);
            Check.is("grudges behind " + stops + " stops", x.guestOf(2, 5), stops < 9 ? stops : 9);
            Check.is("waits", x.guestOf(2, 3), 0);
            x.press(1);
        }
        ButtonGuests y = Check.loaded("He004g2204g2201p1");
        Check.is("who called and has no place", y.guestOf(1, 5), 1);
        Check.is("who got in", y.guestOf(0, 5), 0);
    }

    // ---- rests

    private static void rests() {
        Check.term("When there is a rest, it takes 30 seconds", EdgesOfTermsTest::restSeconds);
        Check.term("and each guest has one grudge less (0 stay 0).", EdgesOfTermsTest::restGrudges);
    }

    private static void restSeconds() {
        ButtonGuests x = new ButtonGuests();
        x.rest();
        Check.is("without guests", x.about(6), 30);
        x.set(2, 9);
        x.rest();
        Check.is("with other seconds for a floor", x.about(6), 60);
    }

    private static void restGrudges() {
        ButtonGuests x = Check.passed(11, "g5131g5011");
        has(x, "before", 0, 0, 9, 9);
        x.rest();
        has(x, "9 less one, 0 stay 0", 0, 0, 8, 8);
        ButtonGuests y = Check.passed(1, "g5131");
        has(y, "before", 0, 0, 1);
        y.rest();
        has(y, "1 less one", 0, 0, 0);
        y.rest();
        has(y, "0 stay 0", 0, 0, 0);
    }

    // ---- settings

    private static void settings() {
        Check.term("0: the greatest load, 4 to 16, at first 6", () -> setting(0, 4, 16, 6));
        Check.term("(those who ride go on riding when it becomes less)", EdgesOfTermsTest::goOnRiding);
        Check.term("1: the grudges of those who press no more, 1 to 9, at first 3", () -> setting(1, 1, 9, 3));
        Check.term("2: seconds for a floor, 1 to 9, at first 2.", () -> setting(2, 1, 9, 2));
    }

    private static void setting(int what, int least, int greatest, int atFirst) {
        ButtonGuests x = new ButtonGuests();
        Check.is("at first", x.setting(what), atFirst);
        Check.is("set to the least", x.set(what, least), atFirst);
        Check.is("the least", x.setting(what), least);
        Check.is("set to the greatest", x.set(what, greatest), least);
        Check.is("the greatest", x.setting(what), greatest);
        Check.noArgument("below the least", () -> x.set(what, least - 1));
        Check.noArgument("above the greatest", () -> x.set(what, greatest + 1));
        Check.is("as it was", x.setting(what), greatest);
    }

    private static void goOnRiding() {
        ButtonGuests x = Check.loaded("He016g1104g1104g1154p0");
        x.set(0, 4);
        Check.is("12 ride with 4", x.about(2), 12);
        x.come(3, 3, 6, 1);
        x.press(3);
        Check.is("12 ride on behind a stop", x.about(2), 12);
        Check.is("nobody gets in", x.guestOf(3, 3), 0);
    }
}
