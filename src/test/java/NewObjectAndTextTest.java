/** Promises 1 to 5: a new object, append, clearText, errorPosition, load. */
public final class NewObjectAndTextTest {
    public static void main(String[] args) {
        promise1NewObject();
        promise2Append();
        promise3ClearText();
        promise4ErrorPosition();
        promise4EverySignEverywhere();
        promise5Load();
        promise5LoadForgets();
        promise5LoadThatFails();
        promise5LeftOut();
        promise5BestCommand();
        Check.end();
    }

    private static void promise1NewObject() {
        ButtonGuests x = new ButtonGuests();
        Check.is("NONE", ButtonGuests.NONE, -1);
        for (int what = 0; what < 12; what++) {
            Check.is("new about(" + what + ")", x.about(what), 0);
        }
        Check.is("new setting(0)", x.setting(0), 6);
        Check.is("new setting(1)", x.setting(1), 3);
        Check.is("new setting(2)", x.setting(2), 2);
        Check.is("new text", x.clearText(), 0);
        Check.noState("new undo()", x::undo);
        Check.noState("new restore(0)", () -> x.restore(0));
        Check.noState("new restore(1)", () -> x.restore(1));
        Check.noIndex("new guestOf(0, 0)", () -> x.guestOf(0, 0));
    }

    private static void promise2Append() {
        ButtonGuests x = new ButtonGuests();
        Check.is("append(0)", x.append(0), 1);
        Check.is("append(255)", x.append(255), 2);
        Check.noArgument("append(-1)", () -> x.append(-1));
        Check.noArgument("append(256)", () -> x.append(256));
        Check.noArgument("append of the least int", () -> x.append(Integer.MIN_VALUE));
        for (int n = 3; n <= 120; n++) {
            Check.is("append at " + n, x.append('r'), n);
        }
        Check.noState("append to 120", () -> x.append('r'));
        Check.noArgument("append(256) to 120", () -> x.append(256));
        Check.is("length behind refusals", x.clearText(), 120);
    }

    private static void promise3ClearText() {
        ButtonGuests x = new ButtonGuests();
        Check.write(x, "Hrr");
        x.rest();
        Check.is("clearText()", x.clearText(), 3);
        Check.is("clearText() again", x.clearText(), 0);
        Check.is("append behind clearText", x.append('H'), 1);
        Check.is("the state is as it was", x.about(6), 30);
        Check.is("the memory is as it was", x.undo(), 0);
    }

    private static void error(String text, int due) {
        ButtonGuests x = new ButtonGuests();
        Check.write(x, text);
        String before = Check.state(x);
        Check.is("errorPosition of " + text, x.errorPosition(), due);
        Check.sameState("errorPosition of " + text, x, before);
        Check.is("length of " + text, x.clearText(), text.length());
    }

    private static void promise4ErrorPosition() {
        error("", 0);
        error("h", 0);
        error(" H", 0);
        error("H", -1);
        error("HH", 1);
        error("H ", 1);
        error("Hx", 1);
        error("H0", 1);
        error("Hrb", -1);
        error("Hrb0", 3);
        error("Hg", 2);
        error("Hg0", 3);
        error("Hg00", 4);
        error("Hg000", 5);
        error("Hg0001", -1);
        error("Hg6664", -1);
        error("Hg7", 2);
        error("Hg07", 3);
        error("Hg007", 4);
        error("Hg0000", 5);
        error("Hg0005", 5);
        error("Hg00011", 6);
        error("Hgr", 2);
        error("Hp", 2);
        error("Hp0", -1);
        error("Hp3", -1);
        error("Hp4", 2);
        error("Hp33", 3);
        error("Hl", 2);
        error("Hl3", -1);
        error("Hl4", 2);
        error("He", 2);
        error("He2", 3);
        error("He3", 2);
        error("He00", 4);
        error("He000", -1);
        error("He009", -1);
        error("He016", -1);
        error("He017", 4);
        error("He02", 3);
        error("He216", -1);
        error("He2160", 5);
        error("Hrrpr", 4);
        error("Hg0001p0rl3e116b", -1);
        error("H" + (char) 0, 1);
        error("Hp" + (char) 255, 2);
    }

    /** Every character behind every beginning: which ones are allowed is written out as a set. */
    private static void promise4EverySignEverywhere() {
        String commands = "gprleb";
        signs("", "H");
        signs("H", commands);
        signs("Hr", commands);
        signs("Hb", commands);
        signs("Hg", "0123456");
        signs("Hg3", "0123456");
        signs("Hg36", "0123456");
        signs("Hg360", "1234");
        signs("Hg3604", commands);
        signs("Hp", "0123");
        signs("Hp3", commands);
        signs("Hl", "0123");
        signs("Hl0", commands);
        signs("He", "012");
        signs("He0", "01");
        signs("He1", "01");
        signs("He00", "0123456789");
        signs("He01", "0123456");
        signs("He10", "0123456789");
        signs("He11", "0123456");
        signs("He011", commands);
    }

    private static void signs(String before, String allowed) {
        ButtonGuests x = new ButtonGuests();
        for (int c = 0; c < 256; c++) {
            x.clearText();
            Check.write(x, before);
            x.append(c);
            int got = x.errorPosition();
            boolean refused = got == before.length();
            Check.is("sign " + c + " behind " + before, refused ? 0 : 1, allowed.indexOf((char) c) >= 0 ? 1 : 0);
            Check.isTrue("error of sign " + c + " behind " + before, refused || got == -1 || got == before.length() + 1);
        }
    }

    private static void promise5Load() {
        ButtonGuests x = new ButtonGuests();
        Check.write(x, "Hg3052e109p0rl0e012");
        Check.is("load()", x.load(), 0);
        ButtonGuests y = new ButtonGuests();
        y.come(3, 0, 5, 2);
        y.set(1, 9);
        y.press(0);
        y.rest();
        y.leave(0);
        y.set(0, 12);
        Check.sameState("load() does as the calls", x, Check.state(y));
        Check.is("the text is kept", x.clearText(), 19);
    }

    private static void promise5LoadForgets() {
        ButtonGuests x = new ButtonGuests();
        x.come(1, 2, 3, 4);
        x.set(2, 9);
        x.press(0);
        x.press(0);
        x.save(0);
        x.save(1);
        Check.write(x, "H");
        Check.is("load() of H", x.load(), 0);
        Check.sameState("load() of H", x, Check.state(new ButtonGuests()));
        Check.noState("undo behind load", x::undo);
        Check.noState("restore(0) behind load", () -> x.restore(0));
        Check.noState("restore(1) behind load", () -> x.restore(1));
        x.append('r');
        Check.is("load() of Hr", x.load(), 0);
        Check.is("load() of Hr anew", x.load(), 0);
        Check.is("seconds of Hr", x.about(6), 30);
        Check.noState("commands of a text are not remembered", x::undo);
    }

    private static void promise5LoadThatFails() {
        ButtonGuests x = new ButtonGuests();
        x.come(1, 2, 3, 4);
        x.save(1);
        x.rest();
        String before = Check.state(x);
        Check.noState("load() of nothing", x::load);
        Check.write(x, "Hrrp");
        Check.noState("load() of Hrrp", x::load);
        Check.sameState("load() that fails", x, before);
        Check.is("the text is kept", x.errorPosition(), 4);
        Check.is("undo behind a load that failed", x.undo(), 1);
        Check.is("restore behind a load that failed", x.restore(1), 0);
        x.append('0');
        Check.is("load() of Hrrp0", x.load(), 1);
    }

    private static void leftOut(String text, int due) {
        ButtonGuests x = new ButtonGuests();
        Check.write(x, text);
        Check.is("load() of " + text, x.load(), due);
        Check.is("refusals of " + text, x.about(8), 0);
    }

    private static void promise5LeftOut() {
        leftOut("Hp0l0", 2);
        leftOut("Hg0001g0001g0001g0001g0001", 1);
        leftOut("He000e003e004e016", 2);
        leftOut("He100e101e109e110e116", 3);
        leftOut("He200e201e209e210e216", 3);
        leftOut("Hg0001p0", 1);
        leftOut("Hg3111p0", 1);
        leftOut("Hg3201p0p0p1", 2);
        leftOut("He101g3201p0g1501p1p1p0", 2);
        leftOut("Hb", 0);
        leftOut("Hrrbbb", 0);
        ButtonGuests x = Check.loaded("Hg0001p0p0p0");
        Check.is("presses that are left out", x.about(7), 0);
        Check.is("presses of the guest that are left out", x.guestOf(0, 6), 0);
    }

    private static void promise5BestCommand() {
        ButtonGuests x = new ButtonGuests();
        Check.write(x, "Hg2021g0202bbb");
        Check.is("load() with b", x.load(), 0);
        ButtonGuests y = new ButtonGuests();
        y.come(2, 0, 2, 1);
        y.come(0, 2, 0, 2);
        for (int i = 0; i < 3; i++) {
            if (y.best() != ButtonGuests.NONE) {
                y.press(y.best());
            }
        }
        Check.sameState("b presses what best() tells", x, Check.state(y));
        Check.isTrue("b presses", x.about(7) > 0);
    }
}
