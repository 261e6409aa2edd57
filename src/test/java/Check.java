/** What the tests share: compares answers, counts what is wrong, ends with exit code 1 if anything was. */
final class Check {
    private static int wrong = 0;
    private static int checked = 0;

    private Check() {
    }

    static void is(String what, long got, long due) {
        checked++;
        if (got != due) {
            tell(what + " answered " + got + ", due is " + due);
        }
    }

    static void isTrue(String what, boolean holds) {
        checked++;
        if (!holds) {
            tell(what + " does not hold");
        }
    }

    static void noIndex(String what, Runnable call) {
        fails(what, IndexOutOfBoundsException.class, call);
    }

    static void noArgument(String what, Runnable call) {
        fails(what, IllegalArgumentException.class, call);
    }

    static void noState(String what, Runnable call) {
        fails(what, IllegalStateException.class, call);
    }

    /** The very class: the machine's own ArrayIndexOutOfBoundsException would not do. */
    private static void fails(String what, Class<?> due, Runnable call) {
        checked++;
        Class<?> got = null;
        try {
            call.run();
        } catch (RuntimeException e) {
            got = e.getClass();
        }
        if (got != due) {
            tell(what + " threw " + (got == null ? "nothing" : got.getName()) + ", due is " + due.getName());
        }
    }

    private static void tell(String fault) {
        wrong++;
        System.out.println(fault);
    }

    static void end() {
        System.out.println(wrong + " wrong of " + checked);
        if (wrong != 0) {
            System.exit(1);
        }
    }

    // ---- what many tests need

    static void write(ButtonGuests x, String text) {
        for (int i = 0; i < text.length(); i++) {
            x.append(text.charAt(i));
        }
    }

    static ButtonGuests loaded(String text) {
        ButtonGuests x = new ButtonGuests();
        write(x, text);
        x.load();
        return x;
    }

    /** All that about(), setting(), guestOf() and floorOf() tell: two equal ones are the same state. */
    static String state(ButtonGuests x) {
        StringBuilder all = new StringBuilder();
        for (int what = 0; what < 12; what++) {
            all.append(x.about(what)).append(' ');
        }
        for (int what = 0; what < 3; what++) {
            all.append(x.setting(what)).append(' ');
        }
        for (int g = 0; g < x.about(0); g++) {
            all.append("| ");
            for (int what = 0; what < 8; what++) {
                all.append(x.guestOf(g, what)).append(' ');
            }
        }
        for (int f = 0; f < 7; f++) {
            all.append("/ ");
            for (int what = 0; what < 3; what++) {
                all.append(x.floorOf(f, what)).append(' ');
            }
        }
        return all.toString();
    }

    static void sameState(String what, ButtonGuests x, String due) {
        checked++;
        String got = state(x);
        if (!got.equals(due)) {
            tell(what + ": the state is\n  " + got + "\ndue is\n  " + due);
        }
    }
}
