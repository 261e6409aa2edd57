/** Promises 6 to 9: about, guestOf, floorOf, setting. */
public final class WhatThereIsTest {
    public static void main(String[] args) {
        promise6About();
        promise6Range();
        promise7GuestOf();
        promise7Range();
        promise8FloorOf();
        promise8Range();
        promise9Setting();
        Check.end();
    }

    /**
     * 0 waits at 1 for 6, button 1; 1 waits at 1, too heavy behind 0 and 2; 2 waits at 1, lighter; 3 is
     * home at 4. The elevator goes to 1, then 1 (who still waits at 1) calls it to 5 and 0 gets it to 1.
     */
    private static ButtonGuests example() {
        ButtonGuests x = new ButtonGuests();
        x.come(1, 1, 6, 4);
        x.come(5, 1, 3, 3);
        x.come(3, 1, 5, 2);
        x.come(2, 4, 4, 1);
        x.press(0);
        x.press(0);
        x.press(1);
        return x;
    }

    private static void promise6About() {
        ButtonGuests x = example();
        int[] due = {4, 5, 4, 1, 1, 2, 2 + 5 + 8 + 5, 2, 1, 5, 1, 1};
        for (int what = 0; what < due.length; what++) {
            Check.is("about(" + what + ")", x.about(what), due[what]);
        }
        x.leave(2);
        Check.is("guests who came home stay counted", x.about(11), 1);
        Check.is("a guest who came to the home floor is not counted", x.about(5), 1);
        x.leave(0);
        Check.is("load behind leave", x.about(2), 0);
        Check.is("riders behind leave", x.about(4), 0);
        Check.is("presses behind leave", x.about(7), 2);
        Check.is("grudges behind leave", x.about(10), 1);
    }

    private static void promise6Range() {
        ButtonGuests x = example();
        Check.noArgument("about(-1)", () -> x.about(-1));
        Check.noArgument("about(12)", () -> x.about(12));
        Check.noArgument("about of the greatest int", () -> x.about(Integer.MAX_VALUE));
        Check.noArgument("about of the least int", () -> x.about(Integer.MIN_VALUE));
    }

    private static void guest(ButtonGuests x, int g, int... due) {
        for (int what = 0; what < due.length; what++) {
            Check.is("guestOf(" + g + ", " + what + ")", x.guestOf(g, what), due[what]);
        }
    }

    private static void promise7GuestOf() {
        ButtonGuests x = example();
        guest(x, 0, 1, 6, 4, 1, 5, 0, 1, 4);
        guest(x, 1, 5, 3, 3, 0, 1, 1, 1, 0);
        guest(x, 2, 3, 5, 2, 2, 5, 0, 0, 4);
        guest(x, 3, 2, 4, 1, 2, 4, 0, 0, 0);
    }

    private static void promise7Range() {
        ButtonGuests x = example();
        Check.noIndex("guestOf(-1, 0)", () -> x.guestOf(-1, 0));
        Check.noIndex("guestOf(4, 0)", () -> x.guestOf(4, 0));
        Check.noIndex("guestOf(4, 8): the guest is named first", () -> x.guestOf(4, 8));
        Check.noArgument("guestOf(0, -1)", () -> x.guestOf(0, -1));
        Check.noArgument("guestOf(3, 8)", () -> x.guestOf(3, 8));
        x.leave(0);
        Check.noIndex("guestOf(3, 0) behind leave", () -> x.guestOf(3, 0));
    }

    private static void floor(ButtonGuests x, int f, int waiting, int home, int buttons) {
        Check.is("floorOf(" + f + ", 0)", x.floorOf(f, 0), waiting);
        Check.is("floorOf(" + f + ", 1)", x.floorOf(f, 1), home);
        Check.is("floorOf(" + f + ", 2)", x.floorOf(f, 2), buttons);
    }

    private static void promise8FloorOf() {
        ButtonGuests x = example();
        floor(x, 0, 0, 0, 0);
        floor(x, 1, 2, 0, 1);
        floor(x, 2, 0, 0, 8);
        floor(x, 3, 0, 0, 4);
        floor(x, 4, 0, 8, 0);
        floor(x, 5, 0, 4, 2);
        floor(x, 6, 0, 0, 0);
        ButtonGuests y = Check.loaded("Hg0561g0561g0501g0551");
        floor(y, 5, 7, 8, 0);
        floor(y, 0, 0, 0, 15);
        y.leave(1);
        floor(y, 5, 3, 4, 0);
        floor(y, 0, 0, 0, 7);
    }

    private static void promise8Range() {
        ButtonGuests x = example();
        Check.noIndex("floorOf(-1, 0)", () -> x.floorOf(-1, 0));
        Check.noIndex("floorOf(7, 0)", () -> x.floorOf(7, 0));
        Check.noIndex("floorOf(7, 3): the floor is named first", () -> x.floorOf(7, 3));
        Check.noArgument("floorOf(0, -1)", () -> x.floorOf(0, -1));
        Check.noArgument("floorOf(6, 3)", () -> x.floorOf(6, 3));
    }

    private static void promise9Setting() {
        ButtonGuests x = new ButtonGuests();
        x.set(0, 16);
        x.set(1, 9);
        x.set(2, 1);
        Check.is("setting(0)", x.setting(0), 16);
        Check.is("setting(1)", x.setting(1), 9);
        Check.is("setting(2)", x.setting(2), 1);
        Check.noArgument("setting(-1)", () -> x.setting(-1));
        Check.noArgument("setting(3)", () -> x.setting(3));
    }
}
