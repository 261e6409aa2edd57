/** Promises 16 to 20: why, fewest, best, ifPressed, leftStanding. */
public final class WhatWouldBeTest {
    public static void main(String[] args) {
        promise16Why();
        promise17Fewest();
        promise17FiveAndSix();
        promise18Best();
        promise19IfPressed();
        promise19Wrong();
        promise20LeftStanding();
        nothingChanges();
        Check.end();
    }

    private static void promise16Why() {
        ButtonGuests x = Check.loaded("Hg0221g0231g4361g0151");
        Check.is("home before all", x.why(0), 1);
        Check.is("the elevator is there", x.why(1), 3);
        Check.is("no reason", x.why(2), 0);
        x.press(2);
        x.set(1, 1);
        Check.is("a grudge is one too many", x.why(3), 2);
        x.set(1, 2);
        Check.is("a grudge is not too many", x.why(3), 0);
        x.press(3);
        x.set(1, 1);
        Check.is("grudges before the elevator that is there", x.why(3), 2);
        Check.is("why() counts no refusal", x.about(8), 0);
        Check.noIndex("why(-1)", () -> x.why(-1));
        Check.noIndex("why(4)", () -> x.why(4));
        Check.noIndex("why(0) of nobody", () -> new ButtonGuests().why(0));
    }

    private static void fewest(String text, int due, int best) {
        ButtonGuests x = Check.loaded(text);
        Check.is("fewest(0) of " + text, x.fewest(0), due);
        Check.is("fewest(1) of " + text, x.fewest(1), due);
        Check.is("best() of " + text, x.best(), best);
    }

    private static void promise17Fewest() {
        fewest("H", 0, -1);
        fewest("Hg0221", 0, -1);
        fewest("Hg0221g0331g0441g0551", 0, -1);
        fewest("Hg0221g0231", -1, -1);
        fewest("Hg2231g3231", 2, 0);
        fewest("Hg2231g3221", -1, -1);
        fewest("Hg2021", -1, -1);
        fewest("Hg2021g0331", -1, -1);
        fewest("Hg2021g0341", -1, -1);
        fewest("Hg2201g0251", -1, -1);
        fewest("Hg3051g5304p0", -1, -1);
        fewest("Hg5351g3531p0", 2, 1);
        fewest("Hg3331g1231p1", -1, -1);
        ButtonGuests x = new ButtonGuests();
        Check.noArgument("fewest(-1)", () -> x.fewest(-1));
        Check.noArgument("fewest(2)", () -> x.fewest(2));
    }

    /**
     * 0 and 1 weigh 4 each and have to be taken from 1 to 0 one behind the other; 2 goes from 0 to 1
     * between: to 1, 0, 1, 0. 3 goes from 0 to 2: one stop more. If the elevator begins at 1 where it
     * takes nobody, there is one stop more again, which is too many.
     */
    private static void promise17FiveAndSix() {
        fewest("He004e109g0104g0104g1011", 4, 2);
        fewest("He004e109g0104g0104g1011p2", 3, 0);
        fewest("He004e109g0104g0104g1011p2p0", 2, 2);
        fewest("He004e109g0104g0104g1011p2p0p2", 1, 1);
        fewest("He004e109g0104g0104g1011p2p0p2p1", 0, -1);
        fewest("He004e109g0104g0104g1011g2021", 5, 2);
        fewest("He004e109g1561p0l0g0104g0104g1011g2021", -1, -1);
        fewest("He004e109g1561p0l0g0104g0104g1011g2021p3", 5, 2);
        fewest("He004e101g0104g0104g1011", 4, 2);
        fewest("He101g4241g2241", 2, 1);
        fewest("He101g4241g2241p0", -1, -1);
        fewest("Hg4241g2241p0", 2, 1);
    }

    /** Where several rows are the shortest, the lowest one who presses first in one of them is the best. */
    private static void promise18Best() {
        fewest("Hg5351g3531", 3, 0);
        fewest("Hg3531g5351", 3, 0);
        fewest("Hg2231g2231g3231", 2, 0);
        fewest("Hg3231g2231g2231", 2, 1);
        fewest("Hg0331g3231g2231", 2, 2);
        fewest("Hg0331g3231g2231g2231", 2, 2);
        ButtonGuests x = Check.loaded("He004e109g0104g0104g1011g2021");
        for (int left = 5; left > 0; left--) {
            Check.is("fewest on the way", x.fewest(left % 2), left);
            Check.is("best presses", x.press(x.best()), 0);
        }
        Check.is("all are home", x.about(5), 4);
        Check.is("fewest() behind all", x.fewest(1), 0);
        Check.is("best() behind all", x.best(), -1);
    }

    private static void brought(ButtonGuests x, int n, int row, int... due) {
        for (int what = 0; what < 5; what++) {
            Check.is("ifPressed(" + n + ", " + row + ", " + what + ")", x.ifPressed(n, row, what), due[what]);
        }
    }

    private static void promise19IfPressed() {
        ButtonGuests x = Check.loaded("Hg2231g3011g0161r");
        brought(x, 1, 0, 1, 4 + 5, 1, 0, 2);
        brought(x, 1, 1, 1, 6 + 5, 2, 0, 3);
        brought(x, 1, 2, 0, 0, 0, 0, 0);
        brought(x, 1, 9, 0, 0, 0, 0, 0);
        brought(x, 2, 1, 2, 9 + 7, 1, 1, 3);
        brought(x, 2, 10, 2, 11 + 7, 1, 0, 2);
        brought(x, 3, 2, 2, 9 + 9, 2, 0, 0);
        brought(x, 3, 99, 1, 9, 1, 0, 2);
        brought(x, 5, 99999, 0, 0, 0, 0, 0);
        brought(x, 5, 0, 1, 9, 1, 0, 2);
        brought(x, 5, 2020, 3, 27, 4, 0, 2);
        x.press(0);
        x.press(0);
        Check.is("presses of before are not counted", x.ifPressed(1, 2, 0), 1);
        Check.is("seconds of before are not counted", x.ifPressed(1, 2, 1), 9);
        Check.is("nothing at all without guests", new ButtonGuests().ifPressed(5, 12301, 0), 0);
    }

    private static void promise19Wrong() {
        ButtonGuests x = Check.loaded("Hg2231");
        Check.noArgument("n 0", () -> x.ifPressed(0, 0, 0));
        Check.noArgument("n 6", () -> x.ifPressed(6, 0, 0));
        Check.noArgument("n -1", () -> x.ifPressed(-1, 0, 0));
        Check.noArgument("row -1", () -> x.ifPressed(1, -1, 0));
        Check.noArgument("row 10 of 1", () -> x.ifPressed(1, 10, 0));
        Check.noArgument("row 100000 of 5", () -> x.ifPressed(5, 100000, 0));
        Check.noArgument("row of the greatest int", () -> x.ifPressed(5, Integer.MAX_VALUE, 0));
        Check.noArgument("what -1", () -> x.ifPressed(1, 0, -1));
        Check.noArgument("what 5", () -> x.ifPressed(1, 0, 5));
        Check.is("row 99999 of 5", x.ifPressed(5, 99999, 4), 0);
        Check.is("row 9 of 1", x.ifPressed(1, 9, 4), 0);
    }

    private static void promise20LeftStanding() {
        ButtonGuests x = Check.loaded("Hg2203g2244g2233g2211");
        Check.is("those who do not get in", x.leftStanding(0), 2 + 8);
        ButtonGuests y = Check.loaded("He004g2203g2244g5601g2211");
        Check.is("3 and 1 get in, 4 does not", y.leftStanding(0), 2);
        Check.is("whose button it is makes no difference", y.leftStanding(3), 2);
        Check.is("nobody waits at 5", y.leftStanding(2), 0);
        y.set(1, 1);
        y.press(2);
        Check.is("whatever the grudges", y.why(0), 2);
        Check.is("also with grudges", y.leftStanding(0), 2);
        y.leave(3);
        y.come(2, 2, 6, 1);
        y.set(1, 9);
        y.press(0);
        Check.is("the elevator is there", y.why(1), 3);
        Check.is("0 with the elevator there", y.leftStanding(1), 0);
        ButtonGuests z = Check.loaded("Hg5223g2014");
        Check.is("a guest at home who is alone", z.leftStanding(0), 0);
        z.come(0, 5, 0, 4);
        z.come(0, 5, 0, 3);
        Check.is("left behind at the button of one at home", z.leftStanding(0), 8);
        Check.noIndex("leftStanding(-1)", () -> x.leftStanding(-1));
        Check.noIndex("leftStanding(4)", () -> x.leftStanding(4));
    }

    private static void nothingChanges() {
        ButtonGuests x = Check.loaded("He004g2203g2244g5661g2211r");
        x.rest();
        String before = Check.state(x);
        x.why(0);
        x.fewest(0);
        x.fewest(1);
        x.best();
        x.ifPressed(5, 2021, 0);
        x.leftStanding(0);
        x.leftStanding(2);
        Check.sameState("what would be changes nothing", x, before);
        Check.is("and is not remembered", x.undo(), 0);
    }
}
