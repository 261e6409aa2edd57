/** The sentences about actions and undo, and of promises 10 to 15, that name a boundary case, one test each. */
public final class EdgesOfActionsTest {
    public static void main(String[] args) {
        all();
        Check.end();
    }

    static void all() {
        remembering();
        come();
        leave();
        press();
        rest();
        set();
        undo();
    }

    // ---- actions and undo

    private static void remembering() {
        Check.term("the state, which consists of everything but the text and the save slots.", EdgesOfActionsTest::theState);
        Check.term("Each call of one of them that does not throw an exception is an action", EdgesOfActionsTest::eachIsOne);
        Check.term("is an action, also if nothing becomes different", EdgesOfActionsTest::nothingDifferent);
        Check.term("(undo is none)", EdgesOfActionsTest::undoIsNone);
        Check.term("Before each action, the state is remembered.", EdgesOfActionsTest::before);
        Check.term("At most 14 states are remembered;", EdgesOfActionsTest::fourteen);
        Check.term("when one more is remembered, the oldest one is forgotten.", EdgesOfActionsTest::oldestForgotten);
        Check.term("load and restore are not actions.", EdgesOfActionsTest::noActions);
        Check.term("all following methods up to the save slots change nothing.", EdgesOfActionsTest::changeNothing);
    }

    /** The press of 3 takes 0 home and passes 2; the leave moves all that belongs to the others. */
    private static void theState() {
        ButtonGuests x = Check.loaded("Hg2031g0461g5132g3544p0p1");
        String first = Check.state(x);
        x.press(3);
        String second = Check.state(x);
        Check.is("one came home", x.about(11), 1);
        x.leave(0);
        x.undo();
        Check.sameState("behind undo() of leave", x, second);
        x.undo();
        Check.sameState("behind undo() of press", x, first);
        Check.is("why() behind undo()", x.why(3), 0);
        ButtonGuests y = Check.loaded("Hg0361g1221");
        String before = Check.state(y);
        y.press(0);
        y.press(1);
        y.set(0, 4);
        y.set(1, 9);
        y.set(2, 9);
        y.rest();
        y.come(1, 2, 2, 4);
        y.append('x');
        y.save(0);
        for (int left = 6; left >= 0; left--) {
            Check.is("undo()", y.undo(), left);
        }
        Check.sameState("behind all undo()", y, before);
        Check.is("the text is not taken back", y.clearText(), 12);
        y.rest();
        y.undo();
        Check.is("the text is not brought back", y.errorPosition(), 0);
        Check.is("the slot is not taken back", y.restore(0), 30);
        Check.is("its guests", y.about(0), 3);
    }

    private static void eachIsOne() {
        ButtonGuests x = new ButtonGuests();
        x.come(3, 0, 6, 1);
        Check.is("come", x.undo(), 0);
        x.come(3, 0, 6, 1);
        x.press(0);
        Check.is("press", x.undo(), 1);
        x.rest();
        Check.is("rest", x.undo(), 1);
        x.set(0, 4);
        Check.is("set", x.undo(), 1);
        x.leave(0);
        Check.is("leave", x.undo(), 1);
        Check.noIndex("leave(1)", () -> x.leave(1));
        Check.noIndex("press(1)", () -> x.press(1));
        Check.noArgument("set(0, 3)", () -> x.set(0, 3));
        Check.noArgument("come, weight 0", () -> x.come(3, 0, 6, 0));
        Check.is("what throws is none", x.undo(), 0);
    }

    private static void nothingDifferent() {
        ButtonGuests x = Check.loaded("Hg0221");
        x.set(0, 6);
        x.set(1, 3);
        x.set(2, 2);
        Check.is("refused", x.press(0), 1);
        Check.is("four states", x.undo(), 3);
        Check.is("the refused one is taken back", x.about(8), 0);
        Check.is("set(2, 2)", x.undo(), 2);
        Check.is("set(1, 3)", x.undo(), 1);
        Check.is("set(0, 6)", x.undo(), 0);
    }

    private static void undoIsNone() {
        ButtonGuests x = new ButtonGuests();
        x.rest();
        x.rest();
        Check.is("the second", x.undo(), 1);
        Check.is("the first, not the undo()", x.undo(), 0);
        Check.noState("no more", x::undo);
        Check.is("seconds", x.about(6), 0);
    }

    private static void before() {
        ButtonGuests x = Check.loaded("Hg3061g0361p0");
        String first = Check.state(x);
        x.press(1);
        String second = Check.state(x);
        x.leave(1);
        x.undo();
        Check.sameState("before the second", x, second);
        x.undo();
        Check.sameState("before the first", x, first);
    }

    private static ButtonGuests rested(int times) {
        ButtonGuests x = new ButtonGuests();
        for (int i = 0; i < times; i++) {
            x.rest();
        }
        return x;
    }

    private static void fourteen() {
        Check.is("undo() behind 13", rested(13).undo(), 12);
        Check.is("undo() behind 14", rested(14).undo(), 13);
        Check.is("undo() behind 15", rested(15).undo(), 13);
        Check.is("undo() behind 100", rested(100).undo(), 13);
        ButtonGuests x = rested(14);
        for (int left = 13; left >= 0; left--) {
            Check.is("undo()", x.undo(), left);
        }
        Check.noState("a fifteenth undo()", x::undo);
        Check.is("seconds behind 14 of 14", x.about(6), 0);
    }

    private static void oldestForgotten() {
        ButtonGuests x = rested(15);
        for (int left = 13; left >= 0; left--) {
            Check.is("undo()", x.undo(), left);
            Check.is("seconds", x.about(6), (left + 1) * 30);
        }
        Check.noState("a fifteenth undo()", x::undo);
        ButtonGuests y = rested(16);
        y.undo();
        y.undo();
        y.set(2, 9);
        y.set(2, 8);
        y.set(2, 7);
        Check.is("one more than fourteen anew", y.undo(), 13);
        for (int left = 12; left >= 0; left--) {
            y.undo();
        }
        Check.is("the oldest that is left", y.about(6), 3 * 30);
    }

    private static void noActions() {
        ButtonGuests x = new ButtonGuests();
        Check.write(x, "Hr");
        x.load();
        Check.noState("undo() of load()", x::undo);
        x.save(0);
        x.rest();
        x.restore(0);
        Check.noState("undo() of restore()", x::undo);
        x.rest();
        x.save(1);
        x.append('r');
        x.clearText();
        Check.noState("load() that throws", x::load);
        Check.noIndex("restore() that throws", () -> x.restore(2));
        Check.is("only the rest is remembered", x.undo(), 0);
    }

    private static ButtonGuests busy() {
        ButtonGuests x = Check.passed(3, "g5131g1224");
        x.save(1);
        x.rest();
        x.press(1);
        return x;
    }

    private static void changeNothing() {
        ButtonGuests x = busy();
        for (int g = 0; g < 4; g++) {
            x.why(g);
            x.leftStanding(g);
        }
        x.fewest(0);
        x.fewest(1);
        x.best();
        for (int what = 0; what < 5; what++) {
            x.ifPressed(5, 10302, what);
        }
        x.runScript(3, 112343000921000L);
        x.runScript(3, 400005001620000L);
        x.simulate(5, 100);
        Check.isTrue("all is as it was", Check.everything(x).equals(Check.everything(busy())));
    }

    // ---- promise 10

    private static void come() {
        Check.promise(10, "(The elevator takes nobody before it stops anew.)", EdgesOfActionsTest::takesNobody);
        Check.promise(10, "`weight`: 1 to 4", EdgesOfActionsTest::weights);
        Check.promise(10, "Returns the guest's number.", EdgesOfActionsTest::number);
        Check.promise(10, "Throws `IndexOutOfBoundsException` if there is no such floor", EdgesOfActionsTest::noFloor);
        Check.promise(10, "Throws `IllegalArgumentException` if weight is out of range", EdgesOfActionsTest::noWeight);
        Check.promise(10, "Throws `IllegalStateException` if there are 4 guests", EdgesOfActionsTest::fifth);
    }

    private static void takesNobody() {
        ButtonGuests x = Check.loaded("Hg3061");
        Check.is("waits where the elevator is", x.guestOf(0, 3), 0);
        x.press(0);
        Check.is("waits where the elevator was", x.guestOf(0, 3), 0);
        Check.is("where", x.floorOf(0, 0), 1);
        x.come(0, 3, 5, 1);
        Check.is("waits where the elevator stopped before", x.guestOf(1, 3), 0);
        x.press(1);
        Check.is("the first one is taken", x.guestOf(0, 3), 1);
        Check.is("the second one is not", x.guestOf(1, 3), 0);
        x.press(0);
        Check.is("the second one is taken when it stops anew", x.guestOf(1, 3), 1);
    }

    private static void weights() {
        ButtonGuests x = new ButtonGuests();
        for (int w = 1; w <= 4; w++) {
            Check.is("come", x.come(0, 1, 2, w), w - 1);
            Check.is("weight", x.guestOf(w - 1, 2), w);
        }
    }

    private static void number() {
        ButtonGuests x = new ButtonGuests();
        for (int g = 0; g < 4; g++) {
            Check.is("come", x.come(0, 1, 2, 1), g);
        }
        x.leave(0);
        Check.is("come behind leave(0)", x.come(5, 1, 2, 1), 3);
        Check.is("the button of the last one", x.guestOf(3, 0), 5);
        x.leave(3);
        x.leave(2);
        Check.is("come behind leave(3) and leave(2)", x.come(5, 1, 2, 1), 2);
    }

    private static void noFloor() {
        ButtonGuests x = new ButtonGuests();
        for (int f : new int[] {-1, 7}) {
            Check.noIndex("button " + f, () -> x.come(f, 1, 2, 1));
            Check.noIndex("at " + f, () -> x.come(0, f, 2, 1));
            Check.noIndex("home " + f, () -> x.come(0, 1, f, 1));
        }
        Check.is("the lowest", x.come(0, 0, 0, 1), 0);
        Check.is("the highest", x.come(6, 6, 6, 1), 1);
    }

    private static void noWeight() {
        ButtonGuests x = new ButtonGuests();
        Check.noArgument("weight 0", () -> x.come(0, 1, 2, 0));
        Check.noArgument("weight 5", () -> x.come(0, 1, 2, 5));
        Check.noArgument("weight -1", () -> x.come(0, 1, 2, -1));
        Check.is("nobody came", x.about(0), 0);
    }

    private static void fifth() {
        ButtonGuests x = Check.loaded("Hg0121g0121g0121");
        Check.is("the fourth", x.come(0, 1, 2, 1), 3);
        Check.noState("a fifth", () -> x.come(0, 1, 2, 1));
        Check.noState("a fifth who would be home", () -> x.come(0, 1, 1, 1));
        x.leave(1);
        Check.is("a fourth again", x.come(0, 1, 2, 1), 3);
    }

    // ---- promise 11

    private static void leave() {
        Check.promise(11, "A guest leaves, with the button, wherever the guest is.", EdgesOfActionsTest::wherever);
        Check.promise(11, "Returns the grudges that the guest had.", EdgesOfActionsTest::grudgesOfTheOneWhoLeaves);
        Check.promise(11, "Throws `IndexOutOfBoundsException` if there is no such guest", EdgesOfActionsTest::nobodyLeaves);
    }

    private static void wherever() {
        ButtonGuests x = Check.loaded("Hg1101g2331g4451p0");
        x.leave(2);
        Check.is("one who waited", x.floorOf(4, 0), 0);
        Check.is("that one's button", x.floorOf(4, 2), 0);
        x.leave(1);
        Check.is("one at home", x.floorOf(3, 1), 0);
        Check.is("that one's button", x.floorOf(2, 2), 0);
        x.leave(0);
        Check.is("one who rode", x.about(2), 0);
        Check.is("that one's button", x.floorOf(1, 2), 0);
        Check.is("nobody is left", x.about(0), 0);
        ButtonGuests y = Check.loaded("He004g2204g4204p0");
        y.leave(0);
        y.come(0, 5, 6, 1);
        y.press(1);
        y.come(2, 5, 6, 1);
        y.press(2);
        Check.is("there is room for the next", y.guestOf(0, 3), 1);
    }

    private static void grudgesOfTheOneWhoLeaves() {
        ButtonGuests x = Check.passed(9, "g5131g6151");
        x.rest();
        x.press(1);
        x.press(0);
        x.rest();
        Check.is("eight", x.leave(3), 8);
        Check.is("none", x.leave(0), 0);
        Check.is("nine", Check.passed(10, "g5131").leave(2), 9);
        ButtonGuests y = Check.passed(2, "g5131");
        y.come(5, 1, 3, 1);
        y.press(0);
        Check.is("none, of one before another with some", y.leave(1), 0);
        Check.is("three, of one before another with one", y.leave(1), 3);
        Check.is("one", y.leave(1), 1);
    }

    private static void nobodyLeaves() {
        ButtonGuests x = Check.loaded("Hg0121g0121");
        Check.noIndex("leave(-1)", () -> x.leave(-1));
        Check.noIndex("leave(2)", () -> x.leave(2));
        x.leave(1);
        Check.noIndex("leave(1)", () -> x.leave(1));
        x.leave(0);
        Check.noIndex("leave(0) of nobody", () -> x.leave(0));
    }

    // ---- promise 12

    private static void press() {
        Check.promise(12, "A guest presses, if the guest does.", EdgesOfActionsTest::ifTheGuestDoes);
        Check.promise(12, "Returns 0 if the elevator goes, otherwise the reason why not.", EdgesOfActionsTest::zeroOrReason);
        Check.promise(12, "Throws `IndexOutOfBoundsException` if there is no such guest", EdgesOfActionsTest::nobodyPresses);
    }

    private static void ifTheGuestDoes() {
        ButtonGuests x = Check.loaded("Hg0161g3221g4461");
        x.press(0);
        x.press(1);
        Check.is("no seconds of refused ones", x.about(6), 0);
        Check.is("the elevator stays", x.about(1), 0);
        Check.is("no presses", x.about(7), 0);
        Check.is("refused", x.about(8), 2);
        Check.is("no presses of the guest", x.guestOf(0, 6), 0);
        x.press(2);
        Check.is("one press", x.about(7), 1);
        Check.is("no refusal more", x.about(8), 2);
    }

    private static void zeroOrReason() {
        ButtonGuests x = Check.passed(3, "g5131g6221");
        Check.is("goes", x.press(1), 0);
        Check.is("home", x.press(3), 1);
        Check.is("grudges", x.press(2), 2);
        Check.is("there", x.press(1), 3);
        Check.is("refused", x.about(8), 3);
    }

    private static void nobodyPresses() {
        ButtonGuests x = Check.loaded("Hg3121");
        Check.noIndex("press(-1)", () -> x.press(-1));
        Check.noIndex("press(1)", () -> x.press(1));
        Check.noIndex("press(4)", () -> x.press(4));
        Check.is("none is counted as refused", x.about(8), 0);
        Check.noIndex("press(0) of nobody", () -> new ButtonGuests().press(0));
    }

    // ---- promises 13 and 14

    private static void rest() {
        Check.promise(13, "Returns the grudges of all guests together then.", EdgesOfActionsTest::grudgesThen);
    }

    private static void grudgesThen() {
        Check.is("without guests", new ButtonGuests().rest(), 0);
        ButtonGuests x = Check.passed(11, "g5131g5011");
        for (int left = 8; left >= 0; left--) {
            Check.is("rest()", x.rest(), 2 * left);
        }
        Check.is("none are left", x.rest(), 0);
        ButtonGuests y = Check.passed(2, "g6151");
        y.press(0);
        y.come(5, 1, 3, 1);
        y.press(1);
        Check.is("four less one, and one less one", y.rest(), 3);
    }

    private static void set() {
        Check.promise(14, "`what`: 0 to 2", EdgesOfActionsTest::whichSetting);
        Check.promise(14, "`v`: the new value, in its range", EdgesOfActionsTest::values);
        Check.promise(14, "Returns the previous one.", EdgesOfActionsTest::previousOne);
        Check.promise(14, "Throws `IllegalArgumentException` if what or v is out of range", EdgesOfActionsTest::notSet);
    }

    private static void whichSetting() {
        ButtonGuests x = new ButtonGuests();
        Check.is("set(0, 5)", x.set(0, 5), 6);
        Check.is("set(1, 6)", x.set(1, 6), 3);
        Check.is("set(2, 7)", x.set(2, 7), 2);
        Check.is("setting(0)", x.setting(0), 5);
        Check.is("setting(1)", x.setting(1), 6);
        Check.is("setting(2)", x.setting(2), 7);
        Check.noArgument("set(-1, 5)", () -> x.set(-1, 5));
        Check.noArgument("set(3, 5)", () -> x.set(3, 5));
    }

    private static void values() {
        ButtonGuests x = new ButtonGuests();
        int[] least = {4, 1, 1};
        int[] greatest = {16, 9, 9};
        for (int what = 0; what < 3; what++) {
            int setting = what;
            for (int v = least[what]; v <= greatest[what]; v++) {
                x.set(what, v);
                Check.is("setting(" + what + ")", x.setting(what), v);
            }
            Check.noArgument("below", () -> x.set(setting, least[setting] - 1));
            Check.noArgument("above", () -> x.set(setting, greatest[setting] + 1));
        }
    }

    private static void previousOne() {
        ButtonGuests x = new ButtonGuests();
        Check.is("at first", x.set(0, 16), 6);
        Check.is("the greatest", x.set(0, 4), 16);
        Check.is("the least", x.set(0, 4), 4);
        Check.is("the same", x.set(0, 5), 4);
        Check.is("another setting", x.set(2, 9), 2);
    }

    private static void notSet() {
        ButtonGuests x = new ButtonGuests();
        Check.noArgument("set(-1, 5)", () -> x.set(-1, 5));
        Check.noArgument("set(3, 5)", () -> x.set(3, 5));
        Check.noArgument("set(0, 3)", () -> x.set(0, 3));
        Check.noArgument("set(0, 17)", () -> x.set(0, 17));
        Check.noArgument("set(1, 0)", () -> x.set(1, 0));
        Check.noArgument("set(1, 10)", () -> x.set(1, 10));
        Check.noArgument("set(2, 0)", () -> x.set(2, 0));
        Check.noArgument("set(2, 10)", () -> x.set(2, 10));
        Check.is("setting(0)", x.setting(0), 6);
        Check.is("setting(1)", x.setting(1), 3);
        Check.is("setting(2)", x.setting(2), 2);
    }

    // ---- promise 15

    private static void undo() {
        Check.promise(15, "Takes back the last action that is remembered.", EdgesOfActionsTest::theLastOne);
        Check.promise(15, "Returns how many states are still remembered.", EdgesOfActionsTest::howManyStill);
        Check.promise(15, "Throws `IllegalStateException` if none is remembered", EdgesOfActionsTest::noneRemembered);
    }

    private static void theLastOne() {
        ButtonGuests x = new ButtonGuests();
        x.come(1, 2, 3, 1);
        x.rest();
        x.undo();
        Check.is("the rest is taken back", x.about(6), 0);
        Check.is("come is not", x.about(0), 1);
        x.undo();
        Check.is("come is taken back", x.about(0), 0);
        ButtonGuests y = Check.loaded("Hg3051g0361p0g4261");
        String before = Check.state(y);
        y.leave(1);
        y.undo();
        Check.sameState("one who left is back", y, before);
    }

    private static void howManyStill() {
        ButtonGuests x = rested(1);
        Check.is("none", x.undo(), 0);
        ButtonGuests y = rested(14);
        Check.is("thirteen", y.undo(), 13);
        y.rest();
        Check.is("thirteen again", y.undo(), 13);
        Check.is("twelve", y.undo(), 12);
    }

    private static void noneRemembered() {
        ButtonGuests x = new ButtonGuests();
        Check.noState("of a new object", x::undo);
        x.rest();
        x.undo();
        Check.noState("behind the last one", x::undo);
        x.rest();
        x.save(0);
        x.restore(0);
        Check.noState("behind restore()", x::undo);
        x.rest();
        Check.write(x, "H");
        x.load();
        Check.noState("behind load()", x::undo);
        x.rest();
        Check.is("one is remembered anew", x.undo(), 0);
    }
}
