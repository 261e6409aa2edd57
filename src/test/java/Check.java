import java.util.ArrayList;
import java.util.LinkedHashSet;
import java.util.List;
import java.util.Set;

/** What the tests share: compares answers, counts what is wrong, ends with exit code 1 if anything was. */
final class Check {
    /** Every sentence that has a test of its own, and those of them whose tests found something wrong. */
    static final List<String> SENTENCES = new ArrayList<>();
    static final Set<String> BROKEN = new LinkedHashSet<>();

    private static int wrong = 0;
    private static int checked = 0;
    private static String sentence = null;

    private Check() {
    }

    static void is(String what, long got, long due) {
        checked++;
        if (got != due) {
            tell(what + " answered " + got + ", due is " + due);
        }
    }

    static void isTrue(String what, boolean holds) {
        checked++;
        if (!holds) {
            tell(what + " does not hold");
        }
    }

    static void noIndex(String what, Runnable call) {
        fails(what, IndexOutOfBoundsException.class, call);
    }

    static void noArgument(String what, Runnable call) {
        fails(what, IllegalArgumentException.class, call);
    }

    static void noState(String what, Runnable call) {
        fails(what, IllegalStateException.class, call);
    }

    /** The very class: the machine's own ArrayIndexOutOfBoundsException would not do. */
    private static void fails(String what, Class<?> due, Runnable call) {
        checked++;
        Class<?> got = null;
        try {
            call.run();
        } catch (RuntimeException e) {
            got = e.getClass();
        }
        if (got != due) {
            tell(what + " threw " + (got == null ? "nothing" : got.getName()) + ", due is " + due.getName());
        }
    }

    private static void tell(String fault) {
        wrong++;
        if (sentence == null) {
            System.out.println(fault);
        } else {
            BROKEN.add(sentence);
            System.out.println(sentence + "\n    " + fault);
        }
    }

    /** The test of a sentence of the document, in its words. */
    static void term(String words, Runnable test) {
        sentence("Terms: " + words, test);
    }

    static void promise(int number, String words, Runnable test) {
        sentence("Promise " + number + ": " + words, test);
    }

    static void sentence(String words, Runnable test) {
        sentence = words;
        SENTENCES.add(words);
        int before = checked;
        try {
            test.run();
        } catch (RuntimeException e) {
            tell("threw " + e);
        }
        if (checked == before) {
            tell("nothing was checked");
        }
        sentence = null;
    }

    static void end() {
        System.out.println(wrong + " wrong of " + checked);
        if (wrong != 0) {
            System.exit(1);
        }
    }

    // ---- what many tests need

    static void write(ButtonGuests x, String text) {
        for (int i = 0; i < text.length(); i++) {
            x.append(text.charAt(i));
        }
    }

    static ButtonGuests loaded(String text) {
        ButtonGuests x = new ButtonGuests();
        write(x, text);
        x.load();
        return x;
    }

    /** All that about(), setting(), guestOf() and floorOf() tell: two equal ones are the same state. */
    static String state(ButtonGuests x) {
        StringBuilder all = new StringBuilder();
        for (int what = 0; what < 12; what++) {
            all.append(x.about(what)).append(' ');
        }
        for (int what = 0; what < 3; what++) {
            all.append(x.setting(what)).append(' ');
        }
        for (int g = 0; g < x.about(0); g++) {
            all.append("| ");
            for (int what = 0; what < 8; what++) {
                all.append(x.guestOf(g, what)).append(' ');
            }
        }
        for (int f = 0; f < 7; f++) {
            all.append("/ ");
            for (int what = 0; what < 3; what++) {
                all.append(x.floorOf(f, what)).append(' ');
            }
        }
        return all.toString();
    }

    /** All that an object holds. This uses the object up, and makes some 280 calls of its 512. */
    static String everything(ButtonGuests x) {
        StringBuilder all = new StringBuilder(state(x));
        all.append("text ").append(x.errorPosition()).append(' ').append(x.clearText());
        for (int left = memory(x, all); left > 0; left--) {
            memory(x, all);
        }
        for (int slot = 0; slot < 2; slot++) {
            try {
                all.append(" slot ").append(x.restore(slot)).append(": ").append(state(x));
            } catch (IllegalStateException e) {
                all.append(" slot empty");
            }
        }
        return all.toString();
    }

    private static int memory(ButtonGuests x, StringBuilder all) {
        int left = 0;
        try {
            left = x.undo();
            all.append(" behind undo ").append(left).append(':');
            for (int what = 0; what < 12; what++) {
                all.append(' ').append(x.about(what));
            }
        } catch (IllegalStateException e) {
            all.append(" nothing remembered");
        }
        return left;
    }

    /** 0 and 1 call the elevator to 2 and back to 0, n times in all: who waits at 1 (or rides, at home at 1) is passed. */
    static ButtonGuests passed(int n, String guests) {
        StringBuilder text = new StringBuilder("Hg2061g0461").append(guests);
        for (int i = 0; i < n; i++) {
            text.append(i % 2 == 0 ? "p0" : "p1");
        }
        return loaded(text.toString());
    }

    static void sameState(String what, ButtonGuests x, String due) {
        checked++;
        String got = state(x);
        if (!got.equals(due)) {
            tell(what + ": the state is\n  " + got + "\ndue is\n  " + due);
        }
    }
}
