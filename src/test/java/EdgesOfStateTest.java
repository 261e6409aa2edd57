import java.util.function.Consumer;

/** The sentences about exceptions, and of promises 6 to 9, that name a boundary case, one test each. */
public final class EdgesOfStateTest {
    public static void main(String[] args) {
        all();
        Check.end();
    }

    static void all() {
        exceptions();
        about();
        guestOf();
        floorOf();
        setting();
    }

    // ---- exceptions

    private static void exceptions() {
        Check.term("IndexOutOfBoundsException means that a guest or a floor does not exist, or that a save slot is not 0 or 1.",
            EdgesOfStateTest::noSuchThing);
        Check.term("IllegalArgumentException means that another argument is out of its range.",
            EdgesOfStateTest::outOfRange);
        Check.term("If several exceptions apply to a call, the one that its description names first is thrown.",
            EdgesOfStateTest::namedFirst);
        Check.term("A call that throws an exception changes nothing.", EdgesOfStateTest::changesNothing);
        Check.term("The constants: `NONE = -1`", EdgesOfStateTest::none);
    }

    /** Read as the program runs: the compiler would write the number into the test. */
    private static void none() {
        try {
            Check.is("NONE", ButtonGuests.class.getField("NONE").getInt(null), -1);
        } catch (ReflectiveOperationException e) {
            throw new IllegalStateException(e);
        }
    }

    private static void noSuchThing() {
        ButtonGuests x = Check.loaded("Hg2231g3231");
        for (int g : new int[] {-1, 2, 4, 32, Integer.MIN_VALUE, Integer.MAX_VALUE}) {
            Check.noIndex("guestOf(" + g + ", 0)", () -> x.guestOf(g, 0));
            Check.noIndex("leave(" + g + ")", () -> x.leave(g));
            Check.noIndex("press(" + g + ")", () -> x.press(g));
            Check.noIndex("why(" + g + ")", () -> x.why(g));
            Check.noIndex("leftStanding(" + g + ")", () -> x.leftStanding(g));
        }
        for (int f : new int[] {-1, 7, 39, Integer.MIN_VALUE, Integer.MAX_VALUE}) {
            Check.noIndex("floorOf(" + f + ", 0)", () -> x.floorOf(f, 0));
            Check.noIndex("come, button " + f, () -> x.come(f, 0, 0, 1));
            Check.noIndex("come at " + f, () -> x.come(0, f, 0, 1));
            Check.noIndex("come, home " + f, () -> x.come(0, 0, f, 1));
        }
        for (int slot : new int[] {-1, 2, Integer.MIN_VALUE, Integer.MAX_VALUE}) {
            Check.noIndex("save(" + slot + ")", () -> x.save(slot));
            Check.noIndex("restore(" + slot + ")", () -> x.restore(slot));
        }
    }

    private static void outOfRange() {
        ButtonGuests x = Check.loaded("Hg2231");
        for (int far : new int[] {Integer.MIN_VALUE, -1, Integer.MAX_VALUE}) {
            Check.noArgument("append(" + far + ")", () -> x.append(far));
            Check.noArgument("about(" + far + ")", () -> x.about(far));
            Check.noArgument("guestOf(0, " + far + ")", () -> x.guestOf(0, far));
            Check.noArgument("floorOf(0, " + far + ")", () -> x.floorOf(0, far));
            Check.noArgument("setting(" + far + ")", () -> x.setting(far));
            Check.noArgument("come, weight " + far, () -> x.come(0, 0, 0, far));
            Check.noArgument("set(" + far + ", 4)", () -> x.set(far, 4));
            Check.noArgument("set(0, " + far + ")", () -> x.set(0, far));
            Check.noArgument("fewest(" + far + ")", () -> x.fewest(far));
            Check.noArgument("ifPressed(" + far + ", 0, 0)", () -> x.ifPressed(far, 0, 0));
            Check.noArgument("ifPressed(1, " + far + ", 0)", () -> x.ifPressed(1, far, 0));
            Check.noArgument("ifPressed(1, 0, " + far + ")", () -> x.ifPressed(1, 0, far));
            Check.noArgument("runScript(" + far + ", 0)", () -> x.runScript(far, 0));
            Check.noArgument("simulate(0, " + far + ")", () -> x.simulate(0, far));
        }
    }

    private static void namedFirst() {
        ButtonGuests x = new ButtonGuests();
        Check.write(x, "r".repeat(120));
        Check.noArgument("append(256) to a full text", () -> x.append(256));
        Check.noArgument("append(-1) to a full text", () -> x.append(-1));
        Check.noIndex("guestOf(0, 8) of nobody", () -> x.guestOf(0, 8));
        Check.noIndex("guestOf(-1, -1)", () -> x.guestOf(-1, -1));
        Check.noIndex("floorOf(7, 3)", () -> x.floorOf(7, 3));
        Check.noIndex("floorOf(-1, -1)", () -> x.floorOf(-1, -1));
        Check.noIndex("come(7, 0, 0, 0)", () -> x.come(7, 0, 0, 0));
        Check.noIndex("come(0, 7, 0, 5)", () -> x.come(0, 7, 0, 5));
        Check.noIndex("come(0, 0, 7, 5)", () -> x.come(0, 0, 7, 5));
        Check.noIndex("restore(2) with nothing saved", () -> x.restore(2));
        Check.noIndex("restore(-1) with nothing saved", () -> x.restore(-1));
        for (int g = 0; g < 4; g++) {
            x.come(1, 2, 3, 1);
        }
        Check.noArgument("a fifth, weight 5", () -> x.come(0, 0, 0, 5));
        Check.noArgument("a fifth, weight 0", () -> x.come(0, 0, 0, 0));
        Check.noIndex("a fifth, floor 7", () -> x.come(0, 0, 7, 1));
        Check.noIndex("a fifth, floor -1, weight 5", () -> x.come(-1, 0, 0, 5));
    }

    /** Four guests, a full text, a save slot that is taken, and fourteen remembered states: one more would be seen. */
    private static ButtonGuests full() {
        ButtonGuests x = Check.passed(3, "g5131g1224");
        x.save(1);
        for (int i = 0; i < 13; i++) {
            x.rest();
        }
        x.press(1);
        Check.write(x, "x".repeat(120 - 27));
        return x;
    }

    private static void changesNothing() {
        String before = Check.everything(full());
        unchanged(before, "append(256)", x -> x.append(256));
        unchanged(before, "append to a full text", x -> x.append('r'));
        unchanged(before, "load()", x -> x.load());
        unchanged(before, "about(12)", x -> x.about(12));
        unchanged(before, "guestOf(4, 0)", x -> x.guestOf(4, 0));
        unchanged(before, "guestOf(0, 8)", x -> x.guestOf(0, 8));
        unchanged(before, "floorOf(7, 0)", x -> x.floorOf(7, 0));
        unchanged(before, "floorOf(0, 3)", x -> x.floorOf(0, 3));
        unchanged(before, "setting(3)", x -> x.setting(3));
        unchanged(before, "come(0, 0, 7, 1)", x -> x.come(0, 0, 7, 1));
        unchanged(before, "come(0, 0, 0, 5)", x -> x.come(0, 0, 0, 5));
        unchanged(before, "come as a fifth", x -> x.come(0, 0, 0, 1));
        unchanged(before, "leave(4)", x -> x.leave(4));
        unchanged(before, "press(4)", x -> x.press(4));
        unchanged(before, "press(-1)", x -> x.press(-1));
        unchanged(before, "set(3, 5)", x -> x.set(3, 5));
        unchanged(before, "set(0, 3)", x -> x.set(0, 3));
        unchanged(before, "why(4)", x -> x.why(4));
        unchanged(before, "fewest(2)", x -> x.fewest(2));
        unchanged(before, "ifPressed(1, 10, 0)", x -> x.ifPressed(1, 10, 0));
        unchanged(before, "ifPressed(1, 1, 5)", x -> x.ifPressed(1, 1, 5));
        unchanged(before, "leftStanding(4)", x -> x.leftStanding(4));
        unchanged(before, "runScript(1, 100000)", x -> x.runScript(1, 100000));
        unchanged(before, "simulate(1, 101)", x -> x.simulate(1, 101));
        unchanged(before, "save(2)", x -> x.save(2));
        unchanged(before, "restore(0) with nothing saved", x -> x.restore(0));
        unchanged(before, "restore(2)", x -> x.restore(2));
        ButtonGuests y = new ButtonGuests();
        Check.noState("undo() of nothing", y::undo);
        Check.isTrue("undo() of nothing leaves all as it was",
            Check.everything(y).equals(Check.everything(new ButtonGuests())));
    }

    private static void unchanged(String before, String call, Consumer<ButtonGuests> made) {
        ButtonGuests x = full();
        boolean threw = false;
        try {
            made.accept(x);
        } catch (IndexOutOfBoundsException | IllegalArgumentException | IllegalStateException e) {
            threw = true;
        }
        Check.isTrue(call + " throws", threw);
        Check.isTrue("all is as it was behind " + call, Check.everything(x).equals(before));
    }

    // ---- promise 6

    private static void about() {
        Check.promise(6, "0: the guests;", EdgesOfStateTest::guests);
        Check.promise(6, "1: the floor of the elevator;", EdgesOfStateTest::floor);
        Check.promise(6, "2: the load;", EdgesOfStateTest::load);
        Check.promise(6, "3: those who wait; 4: those who ride; 5: those who are home;", EdgesOfStateTest::inEachState);
        Check.promise(6, "6: the seconds so far;", EdgesOfStateTest::seconds);
        Check.promise(6, "7: the presses so far;", EdgesOfStateTest::presses);
        Check.promise(6, "8: how often press() was refused so far;", EdgesOfStateTest::refused);
        Check.promise(6, "9: the floors that the elevator went so far;", EdgesOfStateTest::floors);
        Check.promise(6, "10: the grudges of all guests together;", EdgesOfStateTest::grudges);
        Check.promise(6, "11: the guests who came home so far by the elevator", EdgesOfStateTest::cameHome);
        Check.promise(6, "Throws `IllegalArgumentException` if what is not 0 to 11", EdgesOfStateTest::aboutRange);
    }

    private static void guests() {
        ButtonGuests x = new ButtonGuests();
        Check.is("none", x.about(0), 0);
        for (int n = 1; n <= 4; n++) {
            x.come(n, n, n, 1);
            Check.is("guests", x.about(0), n);
        }
        for (int n = 3; n >= 0; n--) {
            x.leave(0);
            Check.is("guests", x.about(0), n);
        }
    }

    private static void floor() {
        ButtonGuests x = Check.loaded("Hg6051g0051");
        Check.is("the lowest", x.about(1), 0);
        x.press(0);
        Check.is("the highest", x.about(1), 6);
        x.press(1);
        Check.is("the lowest again", x.about(1), 0);
    }

    private static void load() {
        ButtonGuests x = Check.loaded("He016g1101g1102g1103g1114p0");
        Check.is("of those who ride, not of the one at home", x.about(2), 1 + 2 + 3);
        x.leave(1);
        Check.is("without the one who left", x.about(2), 1 + 3);
        x.leave(0);
        x.leave(0);
        Check.is("nobody rides", x.about(2), 0);
    }

    private static void inEachState() {
        ButtonGuests x = Check.loaded("Hg1101g1231g1441g1101p0");
        Check.is("wait", x.about(3), 1);
        Check.is("ride", x.about(4), 2);
        Check.is("home", x.about(5), 1);
        ButtonGuests y = Check.loaded("Hg1101g1101g1101g1101");
        Check.is("all wait", y.about(3), 4);
        Check.is("none ride", y.about(4), 0);
        y.press(0);
        Check.is("none wait", y.about(3), 0);
        Check.is("all ride", y.about(4), 4);
        ButtonGuests z = Check.loaded("Hg1111g1111g1111g1111");
        Check.is("all are home", z.about(5), 4);
        Check.is("none is home", y.about(5), 0);
    }

    private static void seconds() {
        ButtonGuests x = Check.loaded("He209g3121r");
        Check.is("of a rest", x.about(6), 30);
        x.press(0);
        Check.is("and of a press", x.about(6), 30 + 27 + 5);
        x.press(0);
        Check.is("none of a refused press", x.about(6), 62);
        x.set(2, 1);
        Check.is("what went by stays", x.about(6), 62);
    }

    private static void presses() {
        ButtonGuests x = Check.loaded("Hg3121g0161p0b");
        Check.is("of the text, b is none", x.about(7), 1);
        x.press(0);
        Check.is("a refused one is none", x.about(7), 1);
        x.press(1);
        Check.is("one more", x.about(7), 2);
        x.leave(1);
        Check.is("of those who left, too", x.about(7), 2);
        Check.is("b presses", Check.loaded("Hg2231g3231bb").about(7), 2);
    }

    private static void refused() {
        ButtonGuests x = Check.loaded("Hg0221g0331p0");
        Check.is("of the text none", x.about(8), 0);
        x.press(0);
        x.press(1);
        Check.is("two at home", x.about(8), 2);
        Check.noIndex("a guest who is not there", () -> x.press(2));
        x.ifPressed(1, 0, 0);
        x.runScript(1, 20000);
        x.why(0);
        Check.is("no other call counts", x.about(8), 2);
        x.leave(0);
        Check.is("of those who left, too", x.about(8), 2);
    }

    private static void floors() {
        ButtonGuests x = Check.loaded("Hg6051g0051p0p0p1");
        Check.is("up and down", x.about(9), 12);
        x.leave(0);
        x.rest();
        Check.is("those of who left, too", x.about(9), 12);
    }

    private static void grudges() {
        ButtonGuests x = Check.passed(12, "g5131g6151");
        Check.is("nine and nine", x.about(10), 18);
        x.leave(2);
        Check.is("without those of who left", x.about(10), 9);
        Check.is("none", new ButtonGuests().about(10), 0);
    }

    private static void cameHome() {
        ButtonGuests x = Check.loaded("Hg1121g2331g2161p0");
        Check.is("one who came to the home floor is none", x.about(11), 0);
        x.press(2);
        Check.is("one got out", x.about(11), 1);
        x.leave(0);
        Check.is("one who left is one", x.about(11), 1);
        Check.is("all", Check.loaded("Hg1121g1121g2121g2121p0p2").about(11), 4);
    }

    private static void aboutRange() {
        ButtonGuests x = new ButtonGuests();
        Check.is("about(0)", x.about(0), 0);
        Check.is("about(11)", x.about(11), 0);
        Check.noArgument("about(-1)", () -> x.about(-1));
        Check.noArgument("about(12)", () -> x.about(12));
    }

    // ---- promise 7

    private static void guestOf() {
        Check.promise(7, "0: the floor of the button; 1: the home floor; 2: the weight;", EdgesOfStateTest::whatStays);
        Check.promise(7, "3: the state;", EdgesOfStateTest::state);
        Check.promise(7, "4: the floor where the guest is (of one who rides that of the elevator);",
            EdgesOfStateTest::whereTheGuestIs);
        Check.promise(7, "5: the grudges;", EdgesOfStateTest::guestGrudges);
        Check.promise(7, "6: the presses so far;", EdgesOfStateTest::guestPresses);
        Check.promise(7, "7: the floors ridden so far", EdgesOfStateTest::ridden);
        Check.promise(7, "Throws `IndexOutOfBoundsException` if there is no such guest", EdgesOfStateTest::guestOfNobody);
        Check.promise(7, "Throws `IllegalArgumentException` if what is not 0 to 7", EdgesOfStateTest::guestOfRange);
    }

    private static void whatStays() {
        ButtonGuests x = Check.loaded("Hg0651g6104");
        int[][] due = {{0, 5, 1}, {6, 0, 4}};
        for (int g = 0; g < 2; g++) {
            for (int what = 0; what < 3; what++) {
                Check.is("guestOf(" + g + ", " + what + ")", x.guestOf(g, what), due[g][what]);
            }
        }
    }

    private static void state() {
        ButtonGuests x = Check.loaded("Hg1131g3101g1441");
        Check.is("waits", x.guestOf(0, 3), 0);
        Check.is("home", x.guestOf(2, 3), 2);
        x.press(0);
        Check.is("rides", x.guestOf(0, 3), 1);
        x.press(1);
        Check.is("home by the elevator", x.guestOf(0, 3), 2);
    }

    private static void whereTheGuestIs() {
        ButtonGuests x = Check.loaded("Hg1151g6101g5661");
        Check.is("who waits", x.guestOf(0, 4), 1);
        Check.is("who is home at once", x.guestOf(2, 4), 6);
        x.press(0);
        Check.is("who got in", x.guestOf(0, 4), 1);
        x.press(1);
        Check.is("who rides, the elevator's floor", x.guestOf(0, 4), 6);
        x.come(5, 2, 3, 1);
        x.press(3);
        Check.is("who got out, the home floor", x.guestOf(0, 4), 5);
    }

    private static void guestGrudges() {
        Check.is("none", Check.passed(0, "g5131").guestOf(2, 5), 0);
        Check.is("one", Check.passed(1, "g5131").guestOf(2, 5), 1);
        Check.is("nine", Check.passed(9, "g5131").guestOf(2, 5), 9);
    }

    private static void guestPresses() {
        ButtonGuests x = Check.loaded("Hg3121g0161p0p0p1p0b");
        Check.is("two", x.guestOf(0, 6), 2);
        Check.is("one", x.guestOf(1, 6), 1);
        x.press(0);
        Check.is("a refused one is none", x.guestOf(0, 6), 2);
        ButtonGuests y = Check.loaded("Hg2231g3231bb");
        Check.is("b presses", y.guestOf(0, 6), 1);
        Check.is("b presses again", y.guestOf(1, 6), 1);
        Check.is("nobody who comes pressed", y.guestOf(y.come(0, 0, 1, 1), 6), 0);
    }

    private static void ridden() {
        ButtonGuests x = Check.loaded("Hg1161g3051p0");
        Check.is("none when one gets in", x.guestOf(0, 7), 0);
        x.press(1);
        Check.is("up", x.guestOf(0, 7), 2);
        x.press(0);
        Check.is("up and down", x.guestOf(0, 7), 4);
        Check.is("none of one who waits", x.guestOf(1, 7), 0);
        x.come(6, 2, 3, 1);
        x.press(2);
        Check.is("to the home floor, with the last ones", x.guestOf(0, 7), 9);
        x.press(1);
        Check.is("no more at home", x.guestOf(0, 7), 9);
    }

    private static void guestOfNobody() {
        ButtonGuests x = Check.loaded("Hg1231");
        Check.is("guest 0", x.guestOf(0, 0), 1);
        Check.noIndex("guest 1 of one", () -> x.guestOf(1, 0));
        Check.noIndex("guest -1", () -> x.guestOf(-1, 0));
        x.leave(0);
        Check.noIndex("guest 0 of none", () -> x.guestOf(0, 0));
        ButtonGuests y = Check.loaded("Hg0001g0001g0001g0004");
        Check.is("guest 3", y.guestOf(3, 2), 4);
        Check.noIndex("guest 4", () -> y.guestOf(4, 0));
    }

    private static void guestOfRange() {
        ButtonGuests x = Check.loaded("Hg3231");
        Check.is("guestOf(0, 0)", x.guestOf(0, 0), 3);
        Check.is("guestOf(0, 7)", x.guestOf(0, 7), 0);
        Check.noArgument("guestOf(0, -1)", () -> x.guestOf(0, -1));
        Check.noArgument("guestOf(0, 8)", () -> x.guestOf(0, 8));
    }

    // ---- promises 8 and 9

    private static void floorOf() {
        Check.promise(8, "0: those who wait there, as a set (bit g for the guest g);", EdgesOfStateTest::waitThere);
        Check.promise(8, "1: those who are home there, as a set;", EdgesOfStateTest::homeThere);
        Check.promise(8, "2: those whose button is for it, as a set", EdgesOfStateTest::buttonsFor);
        Check.promise(8, "Throws `IndexOutOfBoundsException` if there is no such floor", EdgesOfStateTest::noFloor);
        Check.promise(8, "Throws `IllegalArgumentException` if what is not 0 to 2", EdgesOfStateTest::floorOfRange);
    }

    private static void waitThere() {
        ButtonGuests x = Check.loaded("Hg1121g1621g1221g1121");
        Check.is("the first and the last guest", x.floorOf(1, 0), 1 + 8);
        Check.is("at the highest floor", x.floorOf(6, 0), 2);
        Check.is("one at home does not wait", x.floorOf(2, 0), 0);
        x.press(0);
        Check.is("those who got in do not wait", x.floorOf(1, 0), 0);
        Check.is("all four", Check.loaded("Hg1021g1021g1021g1021").floorOf(0, 0), 15);
    }

    private static void homeThere() {
        ButtonGuests x = Check.loaded("Hg2021g0221g2661g2221");
        Check.is("who came there at once", x.floorOf(2, 1), 2 + 8);
        Check.is("at the highest floor", x.floorOf(6, 1), 4);
        Check.is("whose home floor it is but who waits", x.floorOf(0, 1), 0);
        ButtonGuests y = Check.loaded("Hg1121g2041p0p1");
        Check.is("who came there by the elevator", y.floorOf(2, 1), 1);
        Check.is("not where that one came", y.floorOf(1, 1), 0);
        Check.is("all four", Check.loaded("Hg1001g1001g1001g1001").floorOf(0, 1), 15);
    }

    private static void buttonsFor() {
        ButtonGuests x = Check.loaded("Hg2021g0021g6021g2221");
        Check.is("the first and the last guest", x.floorOf(2, 2), 1 + 8);
        Check.is("the lowest floor", x.floorOf(0, 2), 2);
        Check.is("the highest floor", x.floorOf(6, 2), 4);
        Check.is("no button", x.floorOf(5, 2), 0);
        x.leave(0);
        Check.is("a guest leaves with the button", x.floorOf(2, 2), 4);
        Check.is("all four", Check.loaded("Hg1001g1001g1001g1001").floorOf(1, 2), 15);
    }

    private static void noFloor() {
        ButtonGuests x = Check.loaded("Hg0001g6661");
        Check.is("floor 0", x.floorOf(0, 1), 1);
        Check.is("floor 6", x.floorOf(6, 1), 2);
        Check.noIndex("floor -1", () -> x.floorOf(-1, 1));
        Check.noIndex("floor 7", () -> x.floorOf(7, 1));
    }

    private static void floorOfRange() {
        ButtonGuests x = Check.loaded("Hg0121");
        Check.is("floorOf(1, 0)", x.floorOf(1, 0), 1);
        Check.is("floorOf(0, 2)", x.floorOf(0, 2), 1);
        Check.noArgument("floorOf(0, -1)", () -> x.floorOf(0, -1));
        Check.noArgument("floorOf(0, 3)", () -> x.floorOf(0, 3));
    }

    private static void setting() {
        Check.promise(9, "`what`: 0 to 2", EdgesOfStateTest::threeSettings);
        Check.promise(9, "Returns that setting.", EdgesOfStateTest::settings);
        Check.promise(9, "Throws `IllegalArgumentException` if what is out of range", EdgesOfStateTest::settingRange);
    }

    private static void threeSettings() {
        ButtonGuests x = new ButtonGuests();
        for (int what = 0; what < 3; what++) {
            int at = x.setting(what);
            x.set(what, at + 1);
            Check.is("setting(" + what + ")", x.setting(what), at + 1);
        }
        Check.noArgument("setting(-1)", () -> x.setting(-1));
        Check.noArgument("setting(3)", () -> x.setting(3));
    }

    private static void settings() {
        ButtonGuests x = new ButtonGuests();
        Check.is("setting(0) at first", x.setting(0), 6);
        Check.is("setting(1) at first", x.setting(1), 3);
        Check.is("setting(2) at first", x.setting(2), 2);
        x.set(0, 16);
        x.set(1, 9);
        x.set(2, 1);
        Check.is("setting(0)", x.setting(0), 16);
        Check.is("setting(1)", x.setting(1), 9);
        Check.is("setting(2)", x.setting(2), 1);
    }

    private static void settingRange() {
        ButtonGuests x = new ButtonGuests();
        Check.is("setting(2)", x.setting(2), 2);
        Check.noArgument("setting(-1)", () -> x.setting(-1));
        Check.noArgument("setting(3)", () -> x.setting(3));
    }
}
