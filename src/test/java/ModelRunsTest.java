import java.util.function.IntSupplier;

/** Long runs of mixed calls, each answer and state compared with those of Model; the same runs every time. */
public final class ModelRunsTest {
    private static final int RUNS = 150;
    private static final int SEARCHES = 4000;
    private static final int CALLS = 512;
    private static final int STATES = 4;

    private static long seed = 20261119;
    private static int homeward = 0;

    public static void main(String[] args) {
        for (int run = 0; run < RUNS; run++) {
            oneRun(run);
        }
        for (int search = 0; search < SEARCHES; search++) {
            oneSearch("search " + search + ": ");
        }
        Check.isTrue("fewest() is often a number: " + homeward, homeward > 500);
        Check.end();
    }

    private static int upTo(int n) {
        seed = seed * 6364136223846793005L + 1442695040888963407L;
        return (int) ((seed >>> 33) % (n + 1));
    }

    /** Mostly in the range, at times just outside, seldom far outside. */
    private static int near(int low, int high) {
        int kind = upTo(40);
        if (kind == 0) {
            return low - 1;
        }
        if (kind == 1) {
            return high + 1;
        }
        if (kind == 2) {
            int[] far = {Integer.MIN_VALUE, Integer.MAX_VALUE, -1000, 1000, 0};
            return far[upTo(4)];
        }
        return low + upTo(high - low);
    }

    private static String answer(IntSupplier call) {
        try {
            return String.valueOf(call.getAsInt());
        } catch (RuntimeException e) {
            return "throws." + e.getClass().getSimpleName();
        }
    }

    private static void same(String call, IntSupplier got, IntSupplier due) {
        String dueAnswer = answer(due);
        String gotAnswer = answer(got);
        Check.isTrue(call + " answered " + gotAnswer + ", due is " + dueAnswer + ": that it", gotAnswer.equals(dueAnswer));
    }

    private static void oneRun(int run) {
        ButtonGuests x = new ButtonGuests();
        Model m = new Model();
        boolean small = run % 3 == 0;
        for (int call = 0; call < CALLS; call++) {
            String name = "run " + run + ", call " + call + ": ";
            int kind = upTo(29);
            if (kind < 4) {
                come(name, x, m, small);
            } else if (kind < 12) {
                int g = near(0, 3);
                same(name + "press(" + g + ")", () -> x.press(g), () -> m.press(g));
            } else if (kind < 19) {
                change(name, x, m, kind);
            } else if (kind < 27) {
                ask(name, x, m, kind);
            } else {
                text(name, x, m);
            }
            if (call % STATES == 0) {
                everything(name, x, m);
            }
        }
    }

    /** In small hotels there are few floors, so that all come home more often. */
    private static void come(String name, ButtonGuests x, Model m, boolean small) {
        int high = small ? 2 : 6;
        int button = near(0, high);
        int at = near(0, high);
        int home = near(0, high);
        int weight = near(1, 4);
        same(name + "come(" + button + ", " + at + ", " + home + ", " + weight + ")",
            () -> x.come(button, at, home, weight), () -> m.come(button, at, home, weight));
    }

    private static void change(String name, ButtonGuests x, Model m, int kind) {
        int n = near(0, 3);
        switch (kind) {
            case 12 -> same(name + "leave(" + n + ")", () -> x.leave(n), () -> m.leave(n));
            case 13 -> same(name + "rest()", x::rest, m::rest);
            case 14 -> {
                int what = near(0, 2);
                int v = what == 0 ? near(4, 16) : near(1, 9);
                same(name + "set(" + what + ", " + v + ")", () -> x.set(what, v), () -> m.set(what, v));
            }
            case 15, 16 -> same(name + "undo()", x::undo, m::undo);
            case 17 -> {
                int slot = near(0, 1);
                same(name + "save(" + slot + ")", () -> x.save(slot), () -> m.save(slot));
            }
            default -> {
                int slot = near(0, 1);
                same(name + "restore(" + slot + ")", () -> x.restore(slot), () -> m.restore(slot));
            }
        }
    }

    private static void ask(String name, ButtonGuests x, Model m, int kind) {
        int g = near(0, 3);
        switch (kind) {
            case 19 -> same(name + "why(" + g + ")", () -> x.why(g), () -> m.why(g));
            case 20 -> {
                int way = near(0, 1);
                same(name + "fewest(" + way + ")", () -> x.fewest(way), () -> m.fewest(way));
            }
            case 21 -> same(name + "best()", x::best, m::best);
            case 22 -> {
                int n = near(1, 5);
                int row = near(0, new int[] {9, 99, 3333, 23333, 99999}[upTo(4)]);
                int what = near(0, 4);
                same(name + "ifPressed(" + n + ", " + row + ", " + what + ")",
                    () -> x.ifPressed(n, row, what), () -> m.ifPressed(n, row, what));
            }
            case 23 -> same(name + "leftStanding(" + g + ")", () -> x.leftStanding(g), () -> m.leftStanding(g));
            case 24, 25 -> script(name, x, m);
            default -> {
                long start = upTo(Integer.MAX_VALUE - 1) * 4294967311L;
                int turns = near(1, 100);
                same(name + "simulate(" + start + ", " + turns + ")",
                    () -> x.simulate(start, turns), () -> m.simulate(start, turns));
            }
        }
    }

    private static void script(String name, ButtonGuests x, Model m) {
        int n = near(1, 3);
        long number = 0;
        for (int i = 0; i < Math.min(4, n); i++) {
            int kind = 1 + upTo(8);
            int g = upTo(4);
            int digit = upTo(4);
            int group = switch (kind) {
                case 1 -> 10000 + upTo(7) * 1000 + upTo(7) * 100 + upTo(7) * 10 + upTo(5);
                case 2, 4 -> kind * 10000 + g * 1000;
                case 3, 8 -> kind * 10000 + digit;
                case 5 -> 50000 + upTo(3) * 1000 + upTo(18);
                case 6, 7 -> kind * 10000 + g * 1000 + digit;
                default -> 90000 + upTo(999);
            };
            number = number * 100000 + (upTo(15) == 0 ? upTo(99999) : group);
        }
        long script = upTo(60) == 0 ? -number : upTo(60) == 0 ? number * 10 : number;
        same(name + "runScript(" + n + ", " + script + ")", () -> x.runScript(n, script), () -> m.runScript(n, script));
    }

    /** Few floors and guests whose homes are at buttons, so that fewest() is often a number. */
    private static void oneSearch(String name) {
        ButtonGuests x = new ButtonGuests();
        Model m = new Model();
        int floors = 1 + upTo(3);
        int guests = 2 + upTo(2);
        int[] buttons = new int[guests];
        for (int g = 0; g < guests; g++) {
            buttons[g] = upTo(floors);
        }
        for (int g = 0; g < guests; g++) {
            int button = buttons[g];
            int at = buttons[upTo(guests - 1)];
            int home = buttons[upTo(guests - 1)];
            int weight = 1 + upTo(3);
            same(name + "come", () -> x.come(button, at, home, weight), () -> m.come(button, at, home, weight));
        }
        int load = 4 + upTo(12);
        int patience = 1 + upTo(8);
        same(name + "set", () -> x.set(0, load), () -> m.set(0, load));
        same(name + "set", () -> x.set(1, patience), () -> m.set(1, patience));
        for (int presses = upTo(3); presses > 0; presses--) {
            int g = upTo(guests - 1);
            same(name + "press(" + g + ")", () -> x.press(g), () -> m.press(g));
        }
        String state = name + Check.state(x) + ": ";
        same(state + "fewest(0)", () -> x.fewest(0), () -> m.fewest(0));
        same(state + "fewest(1)", () -> x.fewest(1), () -> m.fewest(1));
        same(state + "best()", x::best, m::best);
        homeward += x.fewest(0) > 0 ? 1 : 0;
    }

    private static String someCommand() {
        return switch (upTo(9)) {
            case 0, 1 -> "g" + upTo(6) + upTo(6) + upTo(6) + (1 + upTo(3));
            case 2, 3, 4 -> "p" + upTo(3);
            case 5 -> "r";
            case 6 -> "l" + upTo(3);
            case 7 -> "e" + upTo(2) + "0" + upTo(9);
            case 8 -> "e" + upTo(2) + "1" + upTo(6);
            default -> "b";
        };
    }

    private static void text(String name, ButtonGuests x, Model m) {
        if (upTo(3) > 0) {
            same(name + "clearText()", x::clearText, m::clearText);
            same(name + "append(72)", () -> x.append('H'), () -> m.append('H'));
        }
        StringBuilder all = new StringBuilder();
        for (int commands = upTo(30); commands > 0; commands--) {
            all.append(someCommand());
        }
        if (upTo(4) == 0) {
            all.append((char) upTo(255)).append(someCommand());
        }
        for (int i = 0; i < all.length(); i++) {
            int c = all.charAt(i);
            same(name + "append(" + c + ")", () -> x.append(c), () -> m.append(c));
        }
        int odd = near(0, 255);
        if (upTo(10) == 0) {
            same(name + "append(" + odd + ")", () -> x.append(odd), () -> m.append(odd));
        }
        same(name + "errorPosition()", x::errorPosition, m::errorPosition);
        same(name + "load() of " + m.text, x::load, m::load);
    }

    private static void everything(String name, ButtonGuests x, Model m) {
        for (int what = -1; what <= 12; what++) {
            int n = what;
            same(name + "about(" + n + ")", () -> x.about(n), () -> m.about(n));
        }
        for (int what = -1; what <= 3; what++) {
            int n = what;
            same(name + "setting(" + n + ")", () -> x.setting(n), () -> m.setting(n));
            for (int f = -1; f <= 7; f++) {
                int floor = f;
                same(name + "floorOf(" + floor + ", " + n + ")", () -> x.floorOf(floor, n), () -> m.floorOf(floor, n));
            }
        }
        for (int guest = -1; guest <= 4; guest++) {
            int g = guest;
            for (int what = -1; what <= 8; what++) {
                int n = what;
                same(name + "guestOf(" + g + ", " + n + ")", () -> x.guestOf(g, n), () -> m.guestOf(g, n));
            }
            same(name + "why(" + g + ")", () -> x.why(g), () -> m.why(g));
        }
    }
}
