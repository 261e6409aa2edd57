/** Promises 10 to 15: come, leave, press, rest, set, undo. */
public final class ActionsTest {
    public static void main(String[] args) {
        promise10Come();
        promise10ComeBehindOneWhoLeft();
        promise10Wrong();
        promise11Leave();
        promise11EverythingMoves();
        promise12Reasons();
        promise12Passing();
        promise12GettingInAndOut();
        promise12HomeWithoutGrudges();
        promise12NineGrudgesStayNine();
        promise13Rest();
        promise14Set();
        promise15Undo();
        promise15Fourteen();
        Check.end();
    }

    private static void promise10Come() {
        ButtonGuests x = new ButtonGuests();
        Check.is("first come", x.come(6, 0, 6, 1), 0);
        Check.is("the elevator takes nobody before it stops anew", x.guestOf(0, 3), 0);
        Check.is("come home", x.come(0, 4, 4, 4), 1);
        Check.is("home at once", x.guestOf(1, 3), 2);
        Check.is("not by the elevator", x.about(11), 0);
        Check.is("third come", x.come(0, 0, 1, 2), 2);
        Check.is("fourth come", x.come(0, 0, 1, 2), 3);
        x.leave(0);
        Check.is("come behind leave", x.come(1, 2, 3, 4), 3);
        Check.is("button", x.guestOf(3, 0), 1);
        Check.is("where", x.guestOf(3, 4), 2);
        Check.is("home", x.guestOf(3, 1), 3);
        Check.is("weight", x.guestOf(3, 2), 4);
        Check.is("no grudges", x.guestOf(3, 5), 0);
    }

    /** Guest 1 rides from 3 to 0 and gets a grudge at 1, then leaves: nothing of that stays for the next 1. */
    private static void promise10ComeBehindOneWhoLeft() {
        ButtonGuests x = Check.loaded("Hg3561g0314p0p1");
        Check.is("grudges of the one who leaves", x.guestOf(1, 5), 1);
        Check.is("presses of the one who leaves", x.guestOf(1, 6), 1);
        Check.is("floors of the one who leaves", x.guestOf(1, 7), 3);
        x.leave(1);
        Check.is("the next one's number", x.come(5, 2, 4, 1), 1);
        Check.is("the next one's state", x.guestOf(1, 3), 0);
        Check.is("the next one's grudges", x.guestOf(1, 5), 0);
        Check.is("the next one's presses", x.guestOf(1, 6), 0);
        Check.is("the next one's floors", x.guestOf(1, 7), 0);
    }

    private static void promise10Wrong() {
        ButtonGuests x = new ButtonGuests();
        Check.noIndex("come(-1, ..)", () -> x.come(-1, 0, 0, 1));
        Check.noIndex("come(7, ..)", () -> x.come(7, 0, 0, 1));
        Check.noIndex("come at -1", () -> x.come(0, -1, 0, 1));
        Check.noIndex("come at 7", () -> x.come(0, 7, 0, 1));
        Check.noIndex("come, home -1", () -> x.come(0, 0, -1, 1));
        Check.noIndex("come, home 7", () -> x.come(0, 0, 7, 1));
        Check.noIndex("come, floor and weight wrong", () -> x.come(0, 0, 7, 0));
        Check.noArgument("come, weight 0", () -> x.come(0, 0, 0, 0));
        Check.noArgument("come, weight 5", () -> x.come(0, 0, 0, 5));
        Check.noState("nothing is remembered of these", x::undo);
        for (int i = 0; i < 4; i++) {
            x.come(0, 0, 0, 1);
        }
        String before = Check.state(x);
        Check.noState("come as a fifth", () -> x.come(6, 6, 6, 4));
        Check.noArgument("come as a fifth, weight 5", () -> x.come(6, 6, 6, 5));
        Check.noIndex("come as a fifth, floor 7", () -> x.come(6, 7, 6, 5));
        Check.sameState("come that throws", x, before);
        Check.is("four are remembered", x.undo(), 3);
    }

    private static void promise11Leave() {
        ButtonGuests x = Check.loaded("He109g4061g0152g5263g2354p0p3");
        int[] grudges = new int[4];
        for (int g = 0; g < 4; g++) {
            grudges[g] = x.guestOf(g, 5);
        }
        Check.is("grudges of 0 who is not passed", grudges[0], 0);
        Check.is("grudges of 1 who is passed once", grudges[1], 1);
        Check.is("grudges of 2 who rides", grudges[2], 0);
        Check.is("grudges of 3 who is passed twice", grudges[3], 2);
        Check.is("leave(1)", x.leave(1), grudges[1]);
        Check.is("2 is 1 now", x.guestOf(1, 0), 5);
        Check.is("3 is 2 now", x.guestOf(2, 1), 5);
        Check.is("weight of 2 now", x.guestOf(2, 2), 4);
        Check.is("grudges of 2 now", x.guestOf(2, 5), grudges[3]);
        Check.is("state of 1 now", x.guestOf(1, 3), 1);
        Check.is("presses of 2 now", x.guestOf(2, 6), 1);
        Check.noIndex("leave(3)", () -> x.leave(3));
        Check.noIndex("leave(-1)", () -> x.leave(-1));
        Check.is("leave(2)", x.leave(2), grudges[3]);
        Check.is("leave(0)", x.leave(0), grudges[0]);
        Check.is("leave(0) again", x.leave(0), grudges[2]);
        Check.is("nobody is left", x.about(0), 0);
        Check.noIndex("leave(0) of nobody", () -> x.leave(0));
        Check.is("undo of leave", x.undo(), 3);
        Check.is("one is back", x.guestOf(0, 5), grudges[2]);
    }

    private static void promise11EverythingMoves() {
        ButtonGuests x = Check.loaded("Hg6561g3524g0353g4614p1p2p1");
        int[][] before = new int[4][8];
        for (int g = 0; g < 4; g++) {
            for (int what = 0; what < 8; what++) {
                before[g][what] = x.guestOf(g, what);
            }
        }
        Check.is("floors of 2", before[2][7], 6);
        Check.is("floor of 3", before[3][4], 6);
        x.leave(1);
        for (int g = 0; g < 3; g++) {
            for (int what = 0; what < 8; what++) {
                Check.is("guestOf(" + g + ", " + what + ") behind leave(1)", x.guestOf(g, what), before[g < 1 ? g : g + 1][what]);
            }
        }
    }

    private static void promise12Reasons() {
        ButtonGuests x = Check.loaded("Hg3221g3241");
        Check.is("press of one at home", x.press(0), 1);
        Check.is("press of one who waits", x.press(1), 0);
        Check.is("press with the elevator there", x.press(1), 3);
        Check.is("home is the first reason", x.press(0), 1);
        Check.is("refusals", x.about(8), 3);
        Check.is("presses", x.about(7), 1);
        Check.is("presses of guest 1", x.guestOf(1, 6), 1);
        x.set(1, 1);
        Check.is("grudges are the second reason", x.press(1), 2);
        x.set(1, 2);
        Check.is("one grudge less than the setting", x.press(1), 3);
        Check.noIndex("press(2)", () -> x.press(2));
        Check.noIndex("press(-1)", () -> x.press(-1));
        Check.is("a refusal is an action", x.undo(), 7);
        Check.is("the refusal is taken back", x.about(8), 4);
    }

    private static void promise12Passing() {
        ButtonGuests x = new ButtonGuests();
        x.come(5, 1, 6, 1);
        x.come(1, 5, 4, 1);
        x.come(0, 0, 3, 1);
        x.set(2, 3);
        Check.is("up to 5", x.press(0), 0);
        Check.is("seconds up", x.about(6), 5 * 3 + 5);
        Check.is("passed at 1", x.guestOf(0, 5), 1);
        Check.is("not passed where it stops", x.guestOf(1, 3), 1);
        Check.is("not passed where it starts", x.guestOf(2, 5), 0);
        Check.is("down to 1", x.press(1), 0);
        Check.is("the rider's home floor is passed", x.guestOf(1, 5), 1);
        Check.is("the rider's floors", x.guestOf(1, 7), 4);
        Check.is("0 gets in without grudges", x.guestOf(0, 5), 0);
        Check.is("floors", x.about(9), 9);
        Check.is("seconds", x.about(6), 20 + 4 * 3 + 5);
        Check.is("one who waits at the floor where it was is not passed", x.guestOf(2, 5), 0);
        Check.is("up to 5 with both", x.press(0), 0);
        Check.is("home floor 4 is passed again", x.guestOf(1, 5), 2);
        Check.is("home floor 6 is not reached", x.guestOf(0, 5), 0);
        Check.is("floors of 0", x.guestOf(0, 7), 4);
        Check.is("floors of 1", x.guestOf(1, 7), 8);
    }

    private static void promise12GettingInAndOut() {
        ButtonGuests x = new ButtonGuests();
        x.come(2, 2, 0, 4);
        x.come(4, 2, 4, 3);
        x.come(4, 2, 4, 2);
        x.come(0, 6, 5, 1);
        x.press(0);
        Check.is("4 gets in", x.guestOf(0, 3), 1);
        Check.is("3 more does not", x.guestOf(1, 3), 0);
        Check.is("who gets a grudge", x.guestOf(1, 5), 1);
        Check.is("2 gets in behind", x.guestOf(2, 3), 1);
        Check.is("the load is just the greatest", x.about(2), 6);
        x.press(1);
        Check.is("out at the home floor", x.guestOf(2, 3), 2);
        Check.is("came home by the elevator", x.about(11), 1);
        x.set(0, 4);
        x.leave(3);
        x.come(0, 4, 6, 1);
        x.press(0);
        Check.is("1 does not get in above the new greatest load", x.guestOf(1, 3), 0);
        Check.is("and has two grudges", x.guestOf(1, 5), 2);
        x.press(3);
        Check.is("0 gets out at 0", x.guestOf(0, 3), 2);
        x.set(0, 7);
        x.press(1);
        Check.is("4 has place again", x.guestOf(3, 3), 1);
        ButtonGuests y = Check.loaded("He016g1104g1104g1134p0e004");
        Check.is("all ride on", y.about(2), 12);
        y.come(2, 2, 0, 1);
        y.press(3);
        Check.is("those above the load ride on", y.about(4), 3);
        Check.is("nobody gets in above the load", y.guestOf(3, 5), 1);
        ButtonGuests z = Check.loaded("He004g1124g2204p0p1");
        Check.is("out before in", z.about(4), 1);
        Check.is("4 got in where 4 got out", z.guestOf(1, 3), 1);
    }

    private static void promise12HomeWithoutGrudges() {
        ButtonGuests x = Check.loaded("Hg3321g0361p0p1");
        Check.is("a rider whose home floor was passed", x.guestOf(0, 5), 1);
        x.come(2, 0, 6, 1);
        x.press(2);
        Check.is("the rider is home now", x.guestOf(0, 3), 2);
        Check.is("home without grudges", x.guestOf(0, 5), 0);
    }

    /** Guest 0 goes up and down past guest 1. */
    private static void promise12NineGrudgesStayNine() {
        ButtonGuests x = Check.loaded("He109g4061g0152g2341");
        for (int i = 1; i <= 12; i++) {
            x.press(i % 2 == 1 ? 0 : 1);
            if (i == 1) {
                Check.is("one grudge", x.guestOf(1, 5), 1);
            }
        }
        Check.is("guest 1 presses no more with nine", x.why(1), 2);
        ButtonGuests y = Check.loaded("He109g5601g0601g0151p0p1p0p1p0p1p0p1p0p1p0p1p0p1");
        Check.is("nine stay nine", y.guestOf(2, 5), 9);
        Check.is("others press on", y.about(7), 14);
    }

    private static void promise13Rest() {
        ButtonGuests x = Check.loaded("Hg4361g0361g0151p0p1");
        Check.is("two grudges each", x.about(10), 6);
        Check.is("rest()", x.rest(), 3);
        Check.is("seconds of a rest", x.about(6), 2 * 13 + 30);
        Check.is("grudges of 2", x.guestOf(2, 5), 1);
        Check.is("rest() again", x.rest(), 0);
        Check.is("rest() with none", x.rest(), 0);
        Check.is("rest() is an action", x.undo(), 2);
        Check.is("seconds are taken back", x.about(6), 2 * 13 + 60);
        Check.is("rest() without guests", new ButtonGuests().rest(), 0);
    }

    private static void promise14Set() {
        ButtonGuests x = new ButtonGuests();
        Check.is("set(0, 4)", x.set(0, 4), 6);
        Check.is("set(0, 16)", x.set(0, 16), 4);
        Check.is("set(1, 1)", x.set(1, 1), 3);
        Check.is("set(1, 9)", x.set(1, 9), 1);
        Check.is("set(2, 1)", x.set(2, 1), 2);
        Check.is("set(2, 9)", x.set(2, 9), 1);
        Check.is("set to the same", x.set(2, 9), 9);
        Check.noArgument("set(0, 3)", () -> x.set(0, 3));
        Check.noArgument("set(0, 17)", () -> x.set(0, 17));
        Check.noArgument("set(1, 0)", () -> x.set(1, 0));
        Check.noArgument("set(1, 10)", () -> x.set(1, 10));
        Check.noArgument("set(2, 0)", () -> x.set(2, 0));
        Check.noArgument("set(2, 10)", () -> x.set(2, 10));
        Check.noArgument("set(-1, 5)", () -> x.set(-1, 5));
        Check.noArgument("set(3, 5)", () -> x.set(3, 5));
        Check.is("setting(0)", x.setting(0), 16);
        Check.is("setting(1)", x.setting(1), 9);
        Check.is("seven are remembered, also the one without a difference", x.undo(), 6);
    }

    private static void promise15Undo() {
        ButtonGuests x = new ButtonGuests();
        String s0 = Check.state(x);
        x.come(3, 0, 5, 2);
        String s1 = Check.state(x);
        x.press(0);
        String s2 = Check.state(x);
        x.press(0);
        String s3 = Check.state(x);
        x.set(2, 9);
        String s4 = Check.state(x);
        x.rest();
        String s5 = Check.state(x);
        x.leave(0);
        Check.is("undo of leave", x.undo(), 5);
        Check.sameState("undo of leave", x, s5);
        Check.is("undo of rest", x.undo(), 4);
        Check.sameState("undo of rest", x, s4);
        Check.is("undo of set", x.undo(), 3);
        Check.sameState("undo of set", x, s3);
        Check.is("undo of a refusal", x.undo(), 2);
        Check.sameState("undo of a refusal", x, s2);
        Check.is("undo of press", x.undo(), 1);
        Check.sameState("undo of press", x, s1);
        Check.is("undo of come", x.undo(), 0);
        Check.sameState("undo of come", x, s0);
        Check.noState("undo of nothing", x::undo);
        Check.sameState("undo of nothing", x, s0);
        Check.write(x, "Hr");
        x.save(0);
        x.rest();
        x.undo();
        Check.is("undo leaves the text", x.clearText(), 2);
        Check.is("undo leaves the slots", x.restore(0), 0);
    }

    private static void promise15Fourteen() {
        ButtonGuests x = new ButtonGuests();
        for (int i = 0; i < 20; i++) {
            x.rest();
        }
        for (int i = 13; i >= 0; i--) {
            Check.is("undo to " + i, x.undo(), i);
            Check.is("seconds of undo to " + i, x.about(6), (i + 6) * 30);
        }
        Check.is("the six oldest are forgotten", x.about(6), 6 * 30);
        Check.noState("undo behind 14", x::undo);
        x.rest();
        x.set(2, 5);
        Check.is("undo anew", x.undo(), 1);
        Check.is("seconds anew", x.about(6), 7 * 30);
        Check.is("setting anew", x.setting(2), 2);
    }
}
