import java.util.ArrayDeque;
import java.util.ArrayList;
import java.util.HashSet;
import java.util.List;
import java.util.Set;
import java.util.regex.Matcher;
import java.util.regex.Pattern;

/** The document once more, written another way: states are copied whole, texts are matched, rows are all tried. */
final class Model {
    static final String WHOLE_TEXT = "H(g[0-6]{3}[1-4]|p[0-3]|r|l[0-3]|e[0-2](0[0-9]|1[0-6])|b)*";

    /** One guest. */
    static final class Guest implements Cloneable {
        int button;
        int home;
        int weight;
        String state;
        int came;
        int grudges;
        int presses;
        int ridden;

        Guest copy() {
            Guest other = new Guest();
            other.button = button;
            other.home = home;
            other.weight = weight;
            other.state = state;
            other.came = came;
            other.grudges = grudges;
            other.presses = presses;
            other.ridden = ridden;
            return other;
        }

        void grudge() {
            grudges = Math.min(9, grudges + 1);
        }
    }

    /** One state. */
    static final class State {
        List<Guest> guests = new ArrayList<>();
        int[] settings = {6, 3, 2};
        int floor;
        int seconds;
        int presses;
        int refused;
        int floors;
        int cameHome;

        State copy() {
            State other = new State();
            for (Guest guest : guests) {
                other.guests.add(guest.copy());
            }
            other.settings = settings.clone();
            other.floor = floor;
            other.seconds = seconds;
            other.presses = presses;
            other.refused = refused;
            other.floors = floors;
            other.cameHome = cameHome;
            return other;
        }

        boolean allHome() {
            return count("home") == guests.size();
        }

        int count(String wanted) {
            return (int) guests.stream().filter(guest -> guest.state.equals(wanted)).count();
        }

        int load() {
            return guests.stream().filter(guest -> guest.state.equals("rides")).mapToInt(guest -> guest.weight).sum();
        }

        int grudges() {
            return guests.stream().mapToInt(guest -> guest.grudges).sum();
        }

        boolean has(int g) {
            return g >= 0 && g < guests.size();
        }

        int reason(int g) {
            Guest guest = guests.get(g);
            if (guest.state.equals("home")) {
                return 1;
            }
            if (guest.grudges >= settings[1]) {
                return 2;
            }
            return guest.button == floor ? 3 : 0;
        }

        void forced(int g) {
            int to = guests.get(g).button;
            int step = Integer.compare(to, floor);
            presses++;
            guests.get(g).presses++;
            for (int at = floor + step; at != to; at += step) {
                for (Guest guest : guests) {
                    boolean waitsHere = guest.state.equals("waits") && guest.came == at;
                    boolean homeHere = guest.state.equals("rides") && guest.home == at;
                    if (waitsHere || homeHere) {
                        guest.grudge();
                    }
                }
            }
            int gone = Math.abs(to - floor);
            floors += gone;
            seconds += gone * settings[2];
            floor = to;
            seconds += 5;
            for (Guest guest : guests) {
                if (guest.state.equals("rides")) {
                    guest.ridden += gone;
                    if (guest.home == to) {
                        guest.state = "home";
                        guest.grudges = 0;
                        cameHome++;
                    }
                }
            }
            for (Guest guest : guests) {
                if (guest.state.equals("waits") && guest.came == to) {
                    if (load() + guest.weight <= settings[0]) {
                        guest.state = "rides";
                        guest.grudges = 0;
                    } else {
                        guest.grudge();
                    }
                }
            }
        }

        int press(int g) {
            int reason = reason(g);
            if (reason != 0) {
                refused++;
            } else {
                forced(g);
            }
            return reason;
        }

        void rest() {
            seconds += 30;
            for (Guest guest : guests) {
                guest.grudges = Math.max(0, guest.grudges - 1);
            }
        }

        /** What decides about later presses. */
        String position() {
            StringBuilder all = new StringBuilder().append(floor);
            for (Guest guest : guests) {
                all.append(' ').append(guest.state).append(guest.grudges);
            }
            return all.toString();
        }
    }

    State now = new State();
    String text = "";
    final ArrayDeque<State> past = new ArrayDeque<>();
    final State[] slots = new State[2];

    private void remember() {
        past.addLast(now.copy());
        if (past.size() > 14) {
            past.removeFirst();
        }
    }

    private void guest(int g) {
        if (!now.has(g)) {
            throw new IndexOutOfBoundsException();
        }
    }

    private static void range(int n, int low, int high) {
        if (n < low || n > high) {
            throw new IllegalArgumentException();
        }
    }

    private static void floor(int f) {
        if (f < 0 || f > 6) {
            throw new IndexOutOfBoundsException();
        }
    }

    // ---- text

    int append(int c) {
        range(c, 0, 255);
        if (text.length() == 120) {
            throw new IllegalStateException();
        }
        text += (char) c;
        return text.length();
    }

    int clearText() {
        int length = text.length();
        text = "";
        return length;
    }

    /** The matcher tells by hitEnd whether a text that goes on could be a hotel. */
    int errorPosition() {
        Pattern whole = Pattern.compile(WHOLE_TEXT, Pattern.DOTALL);
        if (whole.matcher(text).matches()) {
            return -1;
        }
        for (int length = 1; length <= text.length(); length++) {
            Matcher matcher = whole.matcher(text.substring(0, length));
            if (!matcher.matches() && !matcher.hitEnd()) {
                return length - 1;
            }
        }
        return text.length();
    }

    int load() {
        if (!text.matches("(?s)" + WHOLE_TEXT)) {
            throw new IllegalStateException();
        }
        now = new State();
        int leftOut = 0;
        Matcher commands = Pattern.compile("[gprleb][0-9]*").matcher(text.substring(1));
        while (commands.find()) {
            String command = commands.group();
            int[] d = command.substring(1).chars().map(c -> c - '0').toArray();
            try {
                switch (command.charAt(0)) {
                    case 'g' -> come(d[0], d[1], d[2], d[3]);
                    case 'l' -> leave(d[0]);
                    case 'r' -> rest();
                    case 'e' -> set(d[0], Integer.parseInt(command.substring(2)));
                    case 'b' -> {
                        int g = best();
                        if (g >= 0) {
                            press(g);
                        }
                    }
                    default -> {
                        if (why(d[0]) == 0) {
                            press(d[0]);
                        } else {
                            leftOut++;
                        }
                    }
                }
            } catch (RuntimeException e) {
                leftOut++;
            }
        }
        past.clear();
        slots[0] = null;
        slots[1] = null;
        return leftOut;
    }

    // ---- what there is

    int about(int what) {
        range(what, 0, 11);
        int[] all = {now.guests.size(), now.floor, now.load(), now.count("waits"), now.count("rides"),
            now.count("home"), now.seconds, now.presses, now.refused, now.floors, now.grudges(), now.cameHome};
        return all[what];
    }

    int guestOf(int g, int what) {
        guest(g);
        range(what, 0, 7);
        Guest x = now.guests.get(g);
        int state = List.of("waits", "rides", "home").indexOf(x.state);
        int where = new int[] {x.came, now.floor, x.home}[state];
        return new int[] {x.button, x.home, x.weight, state, where, x.grudges, x.presses, x.ridden}[what];
    }

    int floorOf(int f, int what) {
        floor(f);
        range(what, 0, 2);
        int set = 0;
        for (int g = 0; g < now.guests.size(); g++) {
            int state = guestOf(g, 3);
            boolean there = guestOf(g, 4) == f;
            if (what == 0 && state == 0 && there || what == 1 && state == 2 && there || what == 2 && guestOf(g, 0) == f) {
                set += 1 << g;
            }
        }
        return set;
    }

    int setting(int what) {
        range(what, 0, 2);
        return now.settings[what];
    }

    // ---- actions

    int come(int button, int at, int home, int weight) {
        floor(button);
        floor(at);
        floor(home);
        range(weight, 1, 4);
        if (now.guests.size() == 4) {
            throw new IllegalStateException();
        }
        remember();
        Guest guest = new Guest();
        guest.button = button;
        guest.came = at;
        guest.home = home;
        guest.weight = weight;
        guest.state = at == home ? "home" : "waits";
        now.guests.add(guest);
        return now.guests.size() - 1;
    }

    int leave(int g) {
        guest(g);
        remember();
        return now.guests.remove(g).grudges;
    }

    int press(int g) {
        guest(g);
        remember();
        return now.press(g);
    }

    int rest() {
        remember();
        now.rest();
        return now.grudges();
    }

    int set(int what, int v) {
        range(what, 0, 2);
        range(v, new int[] {4, 1, 1}[what], new int[] {16, 9, 9}[what]);
        remember();
        int previous = now.settings[what];
        now.settings[what] = v;
        return previous;
    }

    int undo() {
        if (past.isEmpty()) {
            throw new IllegalStateException();
        }
        now = past.removeLast();
        return past.size();
    }

    // ---- what would be

    int why(int g) {
        guest(g);
        return now.reason(g);
    }

    int fewest(int way) {
        range(way, 0, 1);
        return way == 0 ? byRows(now) : byPositions(now);
    }

    /** All rows as numbers to the base of the guests, refused presses among them. */
    private static int byRows(State start) {
        int guests = start.guests.size();
        if (start.allHome()) {
            return 0;
        }
        int rows = 1;
        for (int n = 1; n <= 5; n++) {
            rows *= guests;
            for (int row = 0; row < rows; row++) {
                State state = start.copy();
                for (int i = 0, rest = row; i < n; i++, rest /= guests) {
                    state.press(rest % guests);
                }
                if (state.allHome()) {
                    return n;
                }
            }
        }
        return -1;
    }

    private static int byPositions(State start) {
        List<State> wave = List.of(start);
        Set<String> seen = new HashSet<>();
        for (int n = 0; n <= 5; n++) {
            List<State> next = new ArrayList<>();
            for (State state : wave) {
                if (state.allHome()) {
                    return n;
                }
                for (int g = 0; g < state.guests.size(); g++) {
                    State other = state.copy();
                    if (other.press(g) == 0 && seen.add(other.position())) {
                        next.add(other);
                    }
                }
            }
            wave = next;
        }
        return -1;
    }

    int best() {
        int fewest = byPositions(now);
        for (int g = 0; g < now.guests.size() && fewest > 0; g++) {
            State other = now.copy();
            if (other.press(g) == 0 && byPositions(other) == fewest - 1) {
                return g;
            }
        }
        return -1;
    }

    int ifPressed(int n, int row, int what) {
        range(n, 1, 5);
        String digits = String.format("%0" + n + "d", row);
        if (row < 0 || digits.length() > n) {
            throw new IllegalArgumentException();
        }
        range(what, 0, 4);
        State other = now.copy();
        for (char digit : digits.toCharArray()) {
            if (other.has(digit - '0')) {
                other.press(digit - '0');
            }
        }
        return new int[] {other.presses - now.presses, other.seconds - now.seconds, other.grudges(),
            other.count("home"), other.floor}[what];
    }

    int leftStanding(int g) {
        guest(g);
        int to = now.guests.get(g).button;
        if (to == now.floor) {
            return 0;
        }
        Model other = copy();
        other.now.forced(g);
        return other.floorOf(to, 0);
    }

    private Model copy() {
        Model other = new Model();
        other.now = now.copy();
        return other;
    }

    // ---- scripts, simulations

    int runScript(int n, long script) {
        range(n, 1, 3);
        String digits = String.format("%0" + 5 * n + "d", script);
        if (script < 0 || digits.length() > 5 * n) {
            throw new IllegalArgumentException();
        }
        Model other = copy();
        for (int i = 0; i < n; i++) {
            if (!other.command(digits.substring(5 * i, 5 * i + 5))) {
                return i;
            }
        }
        return -1;
    }

    private boolean command(String group) {
        int[] d = group.chars().map(c -> c - '0').toArray();
        int last = d[4];
        try {
            if (d[0] == 1) {
                come(d[1], d[2], d[3], d[4]);
                return true;
            }
            if (group.matches("2.000")) {
                return press(d[1]) == 0;
            }
            if (group.matches("3000.")) {
                for (int i = 0; i < last; i++) {
                    rest();
                }
                return true;
            }
            if (group.matches("4.000")) {
                leave(d[1]);
                return true;
            }
            if (group.matches("5.0..")) {
                set(d[1], Integer.parseInt(group.substring(3)));
                return true;
            }
            if (group.matches("6.00.")) {
                return guestOf(d[1], 3) == last;
            }
            if (group.matches("7.00.")) {
                return guestOf(d[1], 5) <= last;
            }
            if (group.matches("8000.")) {
                return about(5) >= last;
            }
            return group.matches("90...") && about(6) <= Integer.parseInt(group.substring(2));
        } catch (RuntimeException e) {
            return false;
        }
    }

    int simulate(long seed, int m) {
        range(m, 1, 100);
        Model other = copy();
        long x = seed;
        for (int i = 0; i < m; i++) {
            x = x * 6364136223846793005L + 1442695040888963407L;
            other.turn((int) (x >>> 33));
        }
        return 10000 * (other.now.presses - now.presses) + 100 * (other.now.cameHome - now.cameHome)
            + other.now.grudges();
    }

    private void turn(int r) {
        int q = r / 16;
        try {
            switch (r % 16) {
                case 0, 1, 2 -> come(q % 7, q / 8 % 7, q / 64 % 7, 1 + q / 512 % 4);
                case 3 -> {
                    if (q / 4 % 3 == 0) {
                        leave(q % 4);
                    }
                }
                case 4 -> rest();
                case 5 -> set(q / 16 % 2, q / 16 % 2 == 0 ? 4 + q % 13 : 1 + q % 9);
                default -> press(q % 4);
            }
        } catch (RuntimeException e) {
            // left out
        }
    }

    // ---- save slots

    int save(int slot) {
        if (slot != 0 && slot != 1) {
            throw new IndexOutOfBoundsException();
        }
        slots[slot] = now.copy();
        return now.seconds;
    }

    int restore(int slot) {
        if (slot != 0 && slot != 1) {
            throw new IndexOutOfBoundsException();
        }
        if (slots[slot] == null) {
            throw new IllegalStateException();
        }
        now = slots[slot].copy();
        past.clear();
        return now.seconds;
    }
}
