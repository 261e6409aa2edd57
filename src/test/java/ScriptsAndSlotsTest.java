/** Promises 21 to 24: runScript, simulate, save, restore. */
public final class ScriptsAndSlotsTest {
    public static void main(String[] args) {
        promise21Commands();
        promise21Rows();
        promise21Wrong();
        promise22Simulate();
        promise22Wrong();
        promise23Save();
        promise24Restore();
        promise24Wrong();
        Check.end();
    }

    private static void succeeds(ButtonGuests x, long group) {
        Check.is("script " + group, x.runScript(1, group), ButtonGuests.NONE);
    }

    private static void fails(ButtonGuests x, long group) {
        Check.is("script " + group, x.runScript(1, group), 0);
    }

    private static void promise21Commands() {
        ButtonGuests x = Check.loaded("Hg3251g3341g0661p1");
        Check.is("seconds", x.about(6), 11);
        Check.is("grudges", x.about(10), 1);
        String before = Check.state(x);
        long[] right = {16664, 10001, 30000, 30009, 40000, 42000, 50004, 50016, 51001, 51009, 52001, 52009,
            60000, 61001, 62002, 70001, 70009, 71000, 80000, 80001, 90011, 90999};
        for (long group : right) {
            succeeds(x, group);
        }
        long[] wrong = {0, 1, 9999, 17001, 10701, 10071, 10000, 10005, 19991, 20000, 20001, 20010, 20100, 21000,
            22000, 23000, 29000, 30010, 30100, 31000, 40001, 40010, 40100, 43000, 49000, 50003, 50017, 50099,
            50104, 51000, 51010, 52000, 52010, 53004, 59004, 60001, 60002, 60009, 60010, 60100, 61000, 62001,
            63000, 69000, 70000, 70011, 71010, 70101, 73009, 79009, 80002, 80010, 80100, 81000, 90010, 90000, 91011, 99999};
        for (long group : wrong) {
            fails(x, group);
        }
        Check.sameState("scripts change nothing", x, before);
        Check.noState("scripts are not remembered", x::undo);
        ButtonGuests y = Check.loaded("Hg2251g3301");
        succeeds(y, 20000);
        succeeds(y, 21000);
        fails(y, 21001);
        fails(y, 21010);
        fails(y, 21100);
        ButtonGuests z = Check.loaded("Hg0001g0001g0001g0001");
        fails(z, 10001);
        succeeds(z, 80004);
        fails(z, 80005);
    }

    private static void rows(ButtonGuests x, int n, long script, int due) {
        Check.is("runScript(" + n + ", " + script + ")", x.runScript(n, script), due);
    }

    private static void promise21Rows() {
        ButtonGuests x = Check.loaded("Hg2231g3231");
        rows(x, 2, 2000061000L, 1);
        rows(x, 2, 2000060001L, -1);
        rows(x, 2, 2000020000L, 1);
        rows(x, 3, 200002100060002L, -1);
        rows(x, 3, 200002100080003L, 2);
        rows(x, 3, 300029006060001L, 2);
        rows(x, 3, 300029006060000L, -1);
        rows(x, 3, 300029005960000L, 1);
        rows(x, 3, 400004000040000L, 2);
        rows(x, 3, 400004000090000L, -1);
        rows(x, 3, 122211222112221L, 2);
        rows(x, 3, 122211222160000L, -1);
        rows(x, 3, 500044000060000L, -1);
        rows(x, 3, 1L, 0);
        rows(x, 2, 20000L, 0);
        rows(x, 1, 20000L, -1);
        ButtonGuests y = Check.loaded("Hg4061g0131");
        rows(y, 2, 2000071000L, 1);
        rows(y, 2, 2000071001L, -1);
        rows(y, 3, 200003000171000L, -1);
        rows(y, 3, 510012000021000L, 2);
        rows(y, 3, 510022000021000L, -1);
        rows(y, 3, 520092000090041L, -1);
        rows(y, 3, 520092000090040L, 2);
    }

    private static void promise21Wrong() {
        ButtonGuests x = Check.loaded("Hg2231g3231");
        Check.noArgument("n 0", () -> x.runScript(0, 0));
        Check.noArgument("n 4", () -> x.runScript(4, 0));
        Check.noArgument("n of the least int", () -> x.runScript(Integer.MIN_VALUE, 0));
        Check.noArgument("script -1", () -> x.runScript(1, -1));
        Check.noArgument("script of the least long", () -> x.runScript(3, Long.MIN_VALUE));
        Check.noArgument("six digits of 1", () -> x.runScript(1, 100000));
        Check.noArgument("eleven digits of 2", () -> x.runScript(2, 10000000000L));
        Check.noArgument("sixteen digits of 3", () -> x.runScript(3, 1000000000000000L));
        Check.noArgument("the greatest long", () -> x.runScript(3, Long.MAX_VALUE));
        rows(x, 3, 999999999999999L, 0);
        rows(x, 3, 0, 0);
    }

    /** The turns of a simulation as calls of another object. */
    private static int turns(ButtonGuests y, long seed, int m) {
        int presses = y.about(7);
        int home = y.about(11);
        long x = seed;
        for (int i = 0; i < m; i++) {
            x = x * 6364136223846793005L + 1442695040888963407L;
            int r = (int) (x >>> 33);
            int q = r / 16;
            try {
                switch (r % 16) {
                    case 0, 1, 2 -> y.come(q % 7, q / 8 % 7, q / 64 % 7, 1 + q / 512 % 4);
                    case 3 -> {
                        if (q / 4 % 3 == 0) {
                            y.leave(q % 4);
                        }
                    }
                    case 4 -> y.rest();
                    case 5 -> {
                        if (q / 16 % 2 == 0) {
                            y.set(0, 4 + q % 13);
                        } else {
                            y.set(1, 1 + q % 9);
                        }
                    }
                    default -> y.press(q % 4);
                }
            } catch (IndexOutOfBoundsException | IllegalStateException e) {
                // left out
            }
        }
        return 10000 * (y.about(7) - presses) + 100 * (y.about(11) - home) + y.about(10);
    }

    private static void promise22Simulate() {
        String[] texts = {"H", "Hg2231g3231p0p1", "He109g4361g0361g0151p0p1", "Hg0154g3341g0661p1re209p0",
            "Hg4264g0264g3242g6142p2p3"};
        long[] seeds = {0, 1, -1, 42, 123456789, Long.MAX_VALUE, Long.MIN_VALUE, -987654321987654321L,
            7777777777L, -31, 2026, 1119, 271828182845L, 314159265358L, -161803398874L, 99};
        int[] lengths = {1, 2, 7, 30, 99, 100};
        int pressed = 0;
        for (String text : texts) {
            for (long seed : seeds) {
                for (int m : lengths) {
                    ButtonGuests x = Check.loaded(text);
                    String before = Check.state(x);
                    int due = turns(Check.loaded(text), seed, m);
                    Check.is("simulate(" + seed + ", " + m + ") of " + text, x.simulate(seed, m), due);
                    Check.sameState("simulate changes nothing", x, before);
                    Check.noState("simulate is not remembered", x::undo);
                    pressed += due / 10000;
                }
            }
        }
        Check.isTrue("there are presses in the simulations", pressed > 100);
        Check.is("a seed that was counted by hand", new ButtonGuests().simulate(0, 1), 0);
    }

    private static void promise22Wrong() {
        ButtonGuests x = Check.loaded("Hg2231g3231");
        Check.noArgument("m 0", () -> x.simulate(1, 0));
        Check.noArgument("m 101", () -> x.simulate(1, 101));
        Check.noArgument("m -1", () -> x.simulate(1, -1));
    }

    private static void promise23Save() {
        ButtonGuests x = new ButtonGuests();
        Check.is("save(0) of a new one", x.save(0), 0);
        x.rest();
        Check.is("save(1)", x.save(1), 30);
        x.rest();
        Check.is("save(0) again", x.save(0), 60);
        Check.is("save is no action", x.undo(), 1);
        Check.noIndex("save(-1)", () -> x.save(-1));
        Check.noIndex("save(2)", () -> x.save(2));
        Check.is("the last one is stored", x.restore(0), 60);
        Check.is("each slot has its own", x.restore(1), 30);
    }

    private static void promise24Restore() {
        ButtonGuests x = Check.loaded("Hg2231g3231g0154");
        x.set(1, 8);
        x.press(0);
        x.press(0);
        String kept = Check.state(x);
        int seconds = x.about(6);
        x.save(1);
        x.press(1);
        x.leave(0);
        x.rest();
        Check.is("restore(1)", x.restore(1), seconds);
        Check.sameState("restore(1)", x, kept);
        Check.noState("remembered states are forgotten", x::undo);
        x.rest();
        x.come(0, 0, 0, 1);
        Check.is("actions behind restore are remembered", x.undo(), 1);
        x.press(1);
        Check.is("restore(1) again", x.restore(1), seconds);
        Check.sameState("the slot keeps it", x, kept);
        Check.is("the text is kept", x.clearText(), 16);
    }

    private static void promise24Wrong() {
        ButtonGuests x = new ButtonGuests();
        x.save(0);
        x.rest();
        String before = Check.state(x);
        Check.noIndex("restore(-1)", () -> x.restore(-1));
        Check.noIndex("restore(2)", () -> x.restore(2));
        Check.noState("restore(1)", () -> x.restore(1));
        Check.sameState("restore that throws", x, before);
        Check.is("restore that throws forgets nothing", x.undo(), 0);
    }
}
