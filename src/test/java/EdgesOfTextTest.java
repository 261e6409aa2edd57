/** The sentences about the text, and of promises 1 to 5, that name a boundary case, one test each. */
public final class EdgesOfTextTest {
    public static void main(String[] args) {
        all();
        Check.end();
    }

    static void all() {
        whatIsAHotel();
        whatCommandsDo();
        errorPositions();
        newObject();
        appending();
        loading();
    }

    private static ButtonGuests written(String text) {
        ButtonGuests x = new ButtonGuests();
        Check.write(x, text);
        return x;
    }

    private static void error(String text, int due) {
        Check.is("errorPosition() of '" + text + "'", written(text).errorPosition(), due);
    }

    private static void hotel(String text) {
        error(text, ButtonGuests.NONE);
    }

    private static void load(String text, int leftOut) {
        Check.is("load() of " + text, written(text).load(), leftOut);
    }

    // ---- what is a hotel

    private static void whatIsAHotel() {
        Check.term("The object has a text buffer of at most 120 characters.", EdgesOfTextTest::at120);
        Check.term("A hotel as a text is the letter H, and then any number of commands", EdgesOfTextTest::letterH);
        Check.term("a floor is a digit (0 to 6)", EdgesOfTextTest::floorDigits);
        Check.term("a guest a digit (0 to 3)", EdgesOfTextTest::guestDigits);
        Check.term("and a digit for a weight (1 to 4)", EdgesOfTextTest::weightDigits);
        Check.term("e, a digit (0 to 2)", EdgesOfTextTest::settingDigits);
        Check.term("and two digits (00 to 16)", EdgesOfTextTest::valueDigits);
        Check.term("There are no blanks.", EdgesOfTextTest::blanks);
    }

    private static void at120() {
        ButtonGuests x = written("H" + "r".repeat(118));
        Check.is("the 120th character", x.append('r'), 120);
        Check.noState("a 121st character", () -> x.append('r'));
        Check.is("a full text is a hotel", x.errorPosition(), ButtonGuests.NONE);
        Check.is("load() of a full text", x.load(), 0);
        Check.is("119 rests", x.about(6), 119 * 30);
        Check.is("its length", x.clearText(), 120);
    }

    private static void letterH() {
        hotel("H");
        load("H", 0);
        hotel("Hr");
        hotel("H" + "b".repeat(119));
        error("", 0);
        error("h", 0);
        error("r", 0);
        error("rH", 0);
        error("HH", 1);
        error("HR", 1);
    }

    private static void floorDigits() {
        hotel("Hg0001");
        hotel("Hg6661");
        error("Hg7661", 2);
        error("Hg6761", 3);
        error("Hg6671", 4);
        error("Hg/", 2);
        error("Hg-", 2);
    }

    private static void guestDigits() {
        hotel("Hp0");
        hotel("Hp3");
        error("Hp4", 2);
        error("Hp/", 2);
        hotel("Hl0");
        hotel("Hl3");
        error("Hl4", 2);
        error("Hl/", 2);
        error("Hp03", 3);
    }

    private static void weightDigits() {
        hotel("Hg0001");
        hotel("Hg0004");
        error("Hg0000", 5);
        error("Hg0005", 5);
    }

    private static void settingDigits() {
        hotel("He004");
        hotel("He204");
        error("He304", 2);
        error("He/04", 2);
    }

    private static void valueDigits() {
        hotel("He000");
        hotel("He009");
        hotel("He010");
        hotel("He016");
        error("He017", 4);
        error("He019", 4);
        error("He020", 3);
        error("He0160", 5);
        hotel("He100");
        hotel("He216");
        error("He217", 4);
    }

    private static void blanks() {
        error(" H", 0);
        error("H ", 1);
        error("Hr r", 2);
        error("Hg 0001", 2);
        error("Hp 0", 2);
        error("He0 04", 3);
        error("He00 4", 4);
        error("Hr\n", 2);
    }

    // ---- what the commands do

    private static void whatCommandsDo() {
        Check.term("g, the floor of a button, the floor where the guest comes, the home floor", EdgesOfTextTest::commandG);
        Check.term("p and a guest: press()", EdgesOfTextTest::commandP);
        Check.term("r: rest()", EdgesOfTextTest::commandR);
        Check.term("l and a guest: leave()", EdgesOfTextTest::commandL);
        Check.term("two digits (00 to 16): set()", EdgesOfTextTest::commandE);
        Check.term("b: press() of the guest that best() tells, nothing if it tells none.", EdgesOfTextTest::commandB);
        Check.term("Commands that would throw an exception, and presses that are refused, are left out",
            EdgesOfTextTest::leftOut);
        Check.term("(these count as refused nowhere)", EdgesOfTextTest::refusedNowhere);
        Check.term("The text is read from left to right.", EdgesOfTextTest::leftToRight);
    }

    private static void commandG() {
        ButtonGuests x = Check.loaded("Hg0351g6104");
        int[][] due = {{0, 5, 1, 0, 3}, {6, 0, 4, 0, 1}};
        for (int g = 0; g < 2; g++) {
            for (int what = 0; what < 5; what++) {
                Check.is("guestOf(" + g + ", " + what + ")", x.guestOf(g, what), due[g][what]);
            }
        }
        Check.is("one who comes home", Check.loaded("Hg0661").guestOf(0, 3), 2);
    }

    private static void commandP() {
        ButtonGuests x = Check.loaded("Hg1231g1231g1231g6231p3");
        Check.is("the elevator", x.about(1), 6);
        Check.is("presses", x.about(7), 1);
        Check.is("presses of the last guest", x.guestOf(3, 6), 1);
        Check.is("presses of the first guest", x.guestOf(0, 6), 0);
    }

    private static void commandR() {
        Check.is("seconds", Check.loaded("Hrr").about(6), 60);
        Check.is("grudges", Check.loaded("Hg2231g4341p1r").about(10), 0);
    }

    private static void commandL() {
        ButtonGuests x = Check.loaded("Hg1231g2231g3231g4231l3l0");
        Check.is("guests", x.about(0), 2);
        Check.is("the first one left", x.guestOf(0, 0), 2);
        Check.is("the last one left", x.guestOf(1, 0), 3);
    }

    private static void commandE() {
        ButtonGuests x = Check.loaded("He004e101e201");
        Check.is("the least load", x.setting(0), 4);
        Check.is("the least grudges", x.setting(1), 1);
        Check.is("the least seconds", x.setting(2), 1);
        ButtonGuests y = Check.loaded("He016e109e209");
        Check.is("the greatest load", y.setting(0), 16);
        Check.is("the greatest grudges", y.setting(1), 9);
        Check.is("the greatest seconds", y.setting(2), 9);
        Check.is("two digits", Check.loaded("He010").setting(0), 10);
    }

    private static void commandB() {
        ButtonGuests x = Check.loaded("Hg3231g2231b");
        Check.is("the best one pressed", x.guestOf(1, 6), 1);
        Check.is("the elevator", x.about(1), 2);
        Check.is("presses", x.about(7), 1);
        ButtonGuests y = Check.loaded("Hg3231g2231bbbb");
        Check.is("nothing more when all are home", y.about(7), 2);
        Check.is("all are home", y.about(5), 2);
        ButtonGuests z = Check.loaded("Hg3231b");
        Check.is("nothing if there is no row", z.about(7), 0);
        Check.is("nothing without guests", Check.loaded("Hb").about(7), 0);
        Check.is("no refusal", y.about(8) + z.about(8), 0);
        Check.is("no seconds", z.about(6), 0);
    }

    private static void leftOut() {
        load("Hp0", 1);
        load("Hl0", 1);
        load("Hg1231p1l1", 2);
        load("Hg1231g1231g1231g1231g1231", 1);
        load("He003e004e016", 1);
        load("He100e101e109e110", 2);
        load("He200e201e209e210", 2);
        load("Hg0231p0", 1);
        load("Hg1221p0", 1);
        load("He101g2231g5131p1p0p1", 2);
        ButtonGuests x = Check.loaded("Hg1231p0p0e003l1g6231");
        Check.is("presses", x.about(7), 1);
        Check.is("seconds", x.about(6), 7);
        Check.is("the load", x.setting(0), 6);
        Check.is("guests, with the one behind what is left out", x.about(0), 2);
    }

    private static void refusedNowhere() {
        ButtonGuests x = Check.loaded("Hg0231g1221g4151p0p1p2p2p3");
        Check.is("refused so far", x.about(8), 0);
        Check.is("presses so far", x.about(7), 1);
        Check.is("presses of one at home", x.guestOf(1, 6), 0);
        Check.is("presses of one who pressed twice", x.guestOf(2, 6), 1);
        x.press(1);
        Check.is("refused by press() so far", x.about(8), 1);
        Check.is("refused in the text anew", x.load() - 4, 0);
        Check.is("refused behind load()", x.about(8), 0);
    }

    private static void leftToRight() {
        load("Hp0g1231", 1);
        load("Hg1231p0", 0);
        Check.is("the later one holds", Check.loaded("He004e016").setting(0), 16);
        Check.is("0 first", Check.loaded("Hg1051g5051p0p1").about(1), 5);
        Check.is("1 first", Check.loaded("Hg1051g5051p1p0").about(1), 1);
    }

    // ---- the error position

    private static void errorPositions() {
        Check.term("The error position is the index of the first character that these rules do not allow at its place",
            EdgesOfTextTest::firstError);
        Check.term("(a digit is not allowed if no number that is allowed begins with it and those before it)",
            EdgesOfTextTest::digitsBegin);
        Check.term("if the text ends too soon, it is the length of the text.", EdgesOfTextTest::endsTooSoon);
        Check.promise(4, "Returns the error position of the text; NONE if it is a hotel.", EdgesOfTextTest::noneIfAHotel);
    }

    private static void firstError() {
        error("xyz", 0);
        error("Hxyz", 1);
        error("Hg7x", 2);
        error("Hp9p9", 2);
        error("Hrx", 2);
        error("H" + "r".repeat(118) + "x", 119);
        error("Hgr", 2);
        error("H" + (char) 0, 1);
        error("H" + (char) 255, 1);
        error("Hg" + (char) 178, 2);
    }

    private static void digitsBegin() {
        error("He02", 3);
        error("He09", 3);
        error("He017", 4);
        error("He1", 3);
        error("He01", 4);
        error("He00", 4);
        hotel("He016");
        hotel("He109");
        error("Hg0009", 5);
    }

    private static void endsTooSoon() {
        error("", 0);
        error("Hg", 2);
        error("Hg0", 3);
        error("Hg00", 4);
        error("Hg000", 5);
        error("Hp", 2);
        error("Hl", 2);
        error("He", 2);
        error("He0", 3);
        error("He00", 4);
        error("H" + "r".repeat(118) + "p", 120);
    }

    private static void noneIfAHotel() {
        ButtonGuests x = written("H");
        Check.is("NONE", ButtonGuests.NONE, -1);
        Check.is("of the shortest hotel", x.errorPosition(), -1);
        x.append('p');
        Check.is("of one that is not whole", x.errorPosition(), 2);
        x.append('3');
        Check.is("of one that is whole", x.errorPosition(), -1);
        Check.is("its guest need not be there", x.load(), 1);
        x.clearText();
        Check.is("of nothing", x.errorPosition(), 0);
    }

    // ---- promises 1 to 3

    private static void newObject() {
        Check.promise(1, "Creates a hotel without guests.", EdgesOfTextTest::withoutGuests);
    }

    private static void withoutGuests() {
        ButtonGuests x = new ButtonGuests();
        for (int what = 0; what < 12; what++) {
            Check.is("about(" + what + ")", x.about(what), 0);
        }
        Check.noIndex("guest 0", () -> x.guestOf(0, 0));
        for (int f = 0; f < 7; f++) {
            for (int what = 0; what < 3; what++) {
                Check.is("floorOf(" + f + ", " + what + ")", x.floorOf(f, what), 0);
            }
        }
        Check.is("no text", x.clearText(), 0);
        Check.noState("nothing is remembered", x::undo);
        Check.noState("slot 0 is empty", () -> x.restore(0));
        Check.noState("slot 1 is empty", () -> x.restore(1));
        ButtonGuests y = new ButtonGuests();
        y.rest();
        Check.is("each object has its own hotel", x.about(6), 0);
    }

    private static void appending() {
        Check.promise(2, "`c`: character code, 0 to 255", EdgesOfTextTest::codes);
        Check.promise(2, "Returns the new length of the text.", EdgesOfTextTest::newLength);
        Check.promise(2, "Throws `IllegalArgumentException` if c is out of range", EdgesOfTextTest::noCode);
        Check.promise(2, "Throws `IllegalStateException` if the text already has 120 characters", EdgesOfTextTest::full);
        Check.promise(3, "Empties the text buffer.", EdgesOfTextTest::empties);
        Check.promise(3, "Returns the previous length of the text.", EdgesOfTextTest::previousLength);
    }

    private static void codes() {
        ButtonGuests x = new ButtonGuests();
        for (int c = 0; c < 256; c++) {
            Check.is("append(" + c + ")", x.append(c), c % 64 + 1);
            if (c % 64 == 63) {
                x.clearText();
            }
        }
    }

    private static void newLength() {
        ButtonGuests x = new ButtonGuests();
        for (int n = 1; n <= 120; n++) {
            Check.is("the length", x.append('r'), n);
        }
        x.clearText();
        Check.is("the length behind clearText()", x.append('H'), 1);
        x.load();
        Check.is("the length behind load()", x.append('r'), 2);
    }

    private static void noCode() {
        ButtonGuests x = new ButtonGuests();
        Check.noArgument("append(-1)", () -> x.append(-1));
        Check.noArgument("append(256)", () -> x.append(256));
        Check.noArgument("append(72 + 65536)", () -> x.append(72 + 65536));
        Check.noArgument("append of the least int", () -> x.append(Integer.MIN_VALUE));
        Check.noArgument("append of the greatest int", () -> x.append(Integer.MAX_VALUE));
        Check.is("the length", x.clearText(), 0);
    }

    private static void full() {
        ButtonGuests x = written("r".repeat(119));
        Check.is("the last one", x.append(0), 120);
        Check.noState("append(0) to a full text", () -> x.append(0));
        Check.noState("append(255) to a full text", () -> x.append(255));
        x.clearText();
        Check.is("append behind clearText()", x.append(0), 1);
    }

    private static void empties() {
        ButtonGuests x = written("Hp");
        x.clearText();
        Check.is("nothing is there", x.errorPosition(), 0);
        x.append('H');
        Check.is("nothing is behind a new H", x.errorPosition(), ButtonGuests.NONE);
        x.clearText();
        Check.noState("load() of nothing", x::load);
    }

    private static void previousLength() {
        ButtonGuests x = new ButtonGuests();
        Check.is("of nothing", x.clearText(), 0);
        x.append('H');
        Check.is("of one", x.clearText(), 1);
        Check.is("of nothing again", x.clearText(), 0);
        Check.write(x, "r".repeat(120));
        Check.is("of the longest", x.clearText(), 120);
    }

    // ---- promise 5

    private static void loading() {
        Check.promise(5, "Makes everything as in a new object, and then does the commands of the text.",
            EdgesOfTextTest::asNew);
        Check.promise(5, "Behind it no state is remembered", EdgesOfTextTest::nothingRemembered);
        Check.promise(5, "and both save slots are empty.", EdgesOfTextTest::slotsEmpty);
        Check.promise(5, "Keeps the text, also if it throws the exception.", EdgesOfTextTest::keepsTheText);
        Check.promise(5, "Returns the number of commands that are left out", EdgesOfTextTest::howManyLeftOut);
        Check.promise(5, "(a b that presses nothing is none of these)", EdgesOfTextTest::bIsNotLeftOut);
        Check.promise(5, "Throws `IllegalStateException` if the text is not a hotel", EdgesOfTextTest::notAHotel);
    }

    private static void asNew() {
        ButtonGuests x = Check.loaded("Hg3051g0121p0p1r");
        x.press(1);
        x.press(1);
        x.set(0, 16);
        x.set(1, 9);
        x.set(2, 9);
        x.clearText();
        x.append('H');
        x.load();
        Check.sameState("load() of H", x, Check.state(new ButtonGuests()));
        ButtonGuests y = new ButtonGuests();
        y.come(3, 0, 5, 2);
        Check.write(y, "Hg1061");
        y.load();
        y.load();
        Check.is("guests behind load() and load()", y.about(0), 1);
    }

    private static void nothingRemembered() {
        ButtonGuests x = written("Hrg3051p0");
        x.rest();
        x.load();
        Check.noState("undo() of what was before, or of a command", x::undo);
        x.rest();
        Check.is("undo() of what is behind", x.undo(), 0);
    }

    private static void slotsEmpty() {
        ButtonGuests x = written("H");
        x.save(0);
        x.save(1);
        x.load();
        Check.noState("slot 0", () -> x.restore(0));
        Check.noState("slot 1", () -> x.restore(1));
        x.save(1);
        Check.noState("slot 0 is still empty", () -> x.restore(0));
        Check.is("slot 1 is not", x.restore(1), 0);
    }

    private static void keepsTheText() {
        ButtonGuests x = written("Hrp");
        Check.noState("load() of Hrp", x::load);
        Check.is("its error", x.errorPosition(), 3);
        Check.is("append behind it", x.append('0'), 4);
        Check.is("load() of Hrp0", x.load(), 1);
        Check.is("load() of Hrp0 again", x.load(), 1);
        Check.is("the length", x.clearText(), 4);
    }

    private static void howManyLeftOut() {
        load("H", 0);
        load("H" + "p0".repeat(59), 59);
        load("Hg0001" + "p0".repeat(57), 57);
        load("Hrl0rp0e003r", 3);
    }

    private static void bIsNotLeftOut() {
        load("Hb", 0);
        load("H" + "b".repeat(119), 0);
        load("Hg3231bb", 0);
        load("Hg3331bbp0", 1);
    }

    private static void notAHotel() {
        for (String text : new String[] {"", "h", "Hg", "Hx", "He017", "Hr "}) {
            ButtonGuests x = written(text);
            x.rest();
            Check.noState("load() of '" + text + "'", x::load);
            Check.is("the state is as it was", x.about(6), 30);
        }
    }
}
