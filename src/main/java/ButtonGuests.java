/** An elevator of a hotel run by guests who each hold one button. */
public final class ButtonGuests {
    public static final int NONE = -1;

    private static final int SLOTS = 2;
    private static final int MOST_PRESSES = 5;
    private static final int MOST_COMMANDS = 3;
    private static final int MOST_TURNS = 100;

    private final HotelText text;
    private final Past past;
    private final Search search;
    private final Hotel[] slots;
    /** Whatever only would be is done on this copy, so that the state itself stays as it is. */
    private final Hotel trial;
    private Hotel now;

    public ButtonGuests() {
        text = new HotelText();
        past = new Past();
        search = new Search();
        slots = new Hotel[SLOTS];
        trial = new Hotel();
        now = new Hotel();
    }

    // ---- text

    public int append(int c) throws IllegalArgumentException, IllegalStateException {
        if (c < 0 || c > 255) {
            throw new IllegalArgumentException("no character code from 0 to 255");
        }
        if (text.isFull()) {
            throw new IllegalStateException("the text is full");
        }
        return text.add((char) c);
    }

    public int clearText() {
        return text.empty();
    }

    public int errorPosition() {
        return text.firstError();
    }

    public int load() throws IllegalStateException {
        if (text.firstError() != NONE) {
            throw new IllegalStateException("the text is not a hotel");
        }
        now = new Hotel();
        past.forgetAll();
        for (int slot = 0; slot < slots.length; slot++) {
            slots[slot] = null;
        }
        int leftOut = 0;
        for (int at = 1; at < text.size(); at++) {
            if (text.isCommand(at) && !doCommand(at)) {
                leftOut++;
            }
        }
        return leftOut;
    }

    /** Does the command that begins at an index of a text without error; false if it is left out. */
    private boolean doCommand(int at) {
        int first = text.digitAt(at + 1);
        int second = text.digitAt(at + 2);
        int third = text.digitAt(at + 3);
        switch (text.signAt(at)) {
            case 'g':
                return now.admit(first, second, third, text.digitAt(at + 4)) != NONE;
            case 'p':
                return now.goIfWilling(first);
            case 'r':
                now.letAllRest();
                return true;
            case 'l':
                return now.dismiss(first) != NONE;
            case 'e':
                return now.change(first, 10 * second + third) != NONE;
            case 'b':
                now.goIfWilling(search.bestPress(now));
                return true;
            default:
                return false;
        }
    }

    // ---- what there is

    public int about(int what) throws IllegalArgumentException {
        if (what < 0 || what > 11) {
            throw new IllegalArgumentException("no number from 0 to 11");
        }
        return now.number(what);
    }

    public int guestOf(int g, int what) throws IndexOutOfBoundsException, IllegalArgumentException {
        requireGuest(g);
        if (what < 0 || what > 7) {
            throw new IllegalArgumentException("no number from 0 to 7");
        }
        return now.guestNumber(g, what);
    }

    public int floorOf(int f, int what) throws IndexOutOfBoundsException, IllegalArgumentException {
        if (!Hotel.isFloor(f)) {
            throw new IndexOutOfBoundsException("no such floor");
        }
        if (what < 0 || what > 2) {
            throw new IllegalArgumentException("no number from 0 to 2");
        }
        return now.floorSet(f, what);
    }

    public int setting(int what) throws IllegalArgumentException {
        if (!Hotel.isSetting(what)) {
            throw new IllegalArgumentException("no such setting");
        }
        return now.settingOf(what);
    }

    // ---- actions

    public int come(int button, int at, int home, int weight)
            throws IndexOutOfBoundsException, IllegalArgumentException, IllegalStateException {
        if (!Hotel.isFloor(button) || !Hotel.isFloor(at) || !Hotel.isFloor(home)) {
            throw new IndexOutOfBoundsException("no such floor");
        }
        if (!Hotel.isWeight(weight)) {
            throw new IllegalArgumentException("no weight from 1 to 4");
        }
        if (now.isFull()) {
            throw new IllegalStateException("there are 4 guests");
        }
        past.remember(now);
        return now.admit(button, at, home, weight);
    }

    public int leave(int g) throws IndexOutOfBoundsException {
        requireGuest(g);
        past.remember(now);
        return now.dismiss(g);
    }

    public int press(int g) throws IndexOutOfBoundsException {
        requireGuest(g);
        past.remember(now);
        return now.pressBy(g);
    }

    public int rest() {
        past.remember(now);
        now.letAllRest();
        return now.allGrudges();
    }

    public int set(int what, int v) throws IllegalArgumentException {
        if (!Hotel.isSettingValue(what, v)) {
            throw new IllegalArgumentException("no such setting, or no value of it");
        }
        past.remember(now);
        return now.change(what, v);
    }

    public int undo() throws IllegalStateException {
        if (past.isEmpty()) {
            throw new IllegalStateException("no state is remembered");
        }
        past.takeBack(now);
        return past.size();
    }

    // ---- what would be

    public int why(int g) throws IndexOutOfBoundsException {
        requireGuest(g);
        return now.reasonOf(g);
    }

    public int fewest(int way) throws IllegalArgumentException {
        if (way != 0 && way != 1) {
            throw new IllegalArgumentException("neither 0 nor 1");
        }
        return way == 0 ? search.fewestByRows(now) : search.fewestByPositions(now);
    }

    public int best() {
        return search.bestPress(now);
    }

    public int ifPressed(int n, int row, int what) throws IllegalArgumentException {
        if (n < 1 || n > MOST_PRESSES) {
            throw new IllegalArgumentException("no number of presses from 1 to 5");
        }
        if (row < 0 || Digits.without(row, n) != 0) {
            throw new IllegalArgumentException("no row of so many digits");
        }
        if (what < 0 || what > 4) {
            throw new IllegalArgumentException("no number from 0 to 4");
        }
        trial.copyFrom(now);
        for (int i = 0; i < n; i++) {
            trial.pressBy((int) (Digits.without(row, n - 1 - i) % 10));
        }
        return brought(what);
    }

    /** What the presses on the trial brought. */
    private int brought(int what) {
        switch (what) {
            case 0:
                return trial.number(Hotel.PRESSES) - now.number(Hotel.PRESSES);
            case 1:
                return trial.number(Hotel.SECONDS) - now.number(Hotel.SECONDS);
            case 2:
                return trial.allGrudges();
            case 3:
                return trial.number(Hotel.ARE_HOME);
            default:
                return trial.number(Hotel.ELEVATOR_FLOOR);
        }
    }

    public int leftStanding(int g) throws IndexOutOfBoundsException {
        requireGuest(g);
        trial.copyFrom(now);
        return trial.standingBehind(g);
    }

    // ---- scripts, simulations

    public int runScript(int n, long script) throws IllegalArgumentException {
        if (n < 1 || n > MOST_COMMANDS) {
            throw new IllegalArgumentException("no number of commands from 1 to 3");
        }
        if (script < 0 || Digits.without(script, 5 * n) != 0) {
            throw new IllegalArgumentException("no script of so many digits");
        }
        trial.copyFrom(now);
        for (int i = 0; i < n; i++) {
            int group = (int) (Digits.without(script, 5 * (n - 1 - i)) % 100000);
            if (!Script.succeeds(trial, group)) {
                return i;
            }
        }
        return NONE;
    }

    public int simulate(long seed, int m) throws IllegalArgumentException {
        if (m < 1 || m > MOST_TURNS) {
            throw new IllegalArgumentException("no number of turns from 1 to 100");
        }
        trial.copyFrom(now);
        long x = seed;
        for (int turn = 0; turn < m; turn++) {
            x = x * 6364136223846793005L + 1442695040888963407L;
            Turn.take(trial, (int) (x >>> 33));
        }
        int presses = trial.number(Hotel.PRESSES) - now.number(Hotel.PRESSES);
        int cameHome = trial.number(Hotel.CAME_HOME) - now.number(Hotel.CAME_HOME);
        return 10000 * presses + 100 * cameHome + trial.allGrudges();
    }

    // ---- save slots

    public int save(int slot) throws IndexOutOfBoundsException {
        requireSlot(slot);
        Hotel kept = slots[slot];
        if (kept == null) {
            kept = new Hotel();
            slots[slot] = kept;
        }
        kept.copyFrom(now);
        return now.number(Hotel.SECONDS);
    }

    public int restore(int slot) throws IndexOutOfBoundsException, IllegalStateException {
        requireSlot(slot);
        Hotel kept = slots[slot];
        if (kept == null) {
            throw new IllegalStateException("nothing has been saved in the slot");
        }
        now.copyFrom(kept);
        past.forgetAll();
        return now.number(Hotel.SECONDS);
    }

    private void requireGuest(int g) {
        if (!now.isGuest(g)) {
            throw new IndexOutOfBoundsException("no such guest");
        }
    }

    private void requireSlot(int slot) {
        if (slot < 0 || slot >= slots.length) {
            throw new IndexOutOfBoundsException("no such save slot");
        }
    }

    /**
     * A state of the hotel and the rules that change it. Where the document's call would throw an
     * exception, a change here answers NONE and changes nothing: texts, scripts and simulations
     * have to go on behind it.
     */
    private static final class Hotel {
        static final int FLOORS = 7;
        static final int MOST_GUESTS = 4;
        static final int MOST_WEIGHT = 4;
        static final int MOST_GRUDGES = 9;
        static final int DOOR_SECONDS = 5;
        static final int REST_SECONDS = 30;

        static final int WAITS = 0;
        static final int RIDES = 1;
        static final int IS_HOME = 2;

        static final int GREATEST_LOAD = 0;
        static final int PATIENCE = 1;
        static final int FLOOR_SECONDS = 2;

        // the numbers of number() that others ask for, too
        static final int ELEVATOR_FLOOR = 1;
        static final int ARE_HOME = 5;
        static final int SECONDS = 6;
        static final int PRESSES = 7;
        static final int CAME_HOME = 11;

        private static final int[] LEAST_VALUE = {4, 1, 1};
        private static final int[] GREATEST_VALUE = {16, 9, 9};

        private final int[] settings = {6, 3, 2};
        private int guests;
        private int floor;
        private int seconds;
        private int presses;
        private int refusals;
        private int floorsGone;
        private int cameHome;

        // a row each, by the guests' numbers
        private final int[] button = new int[MOST_GUESTS];
        /** Where the guest came: no longer where the guest is once the guest does not wait. */
        private final int[] waitingFloor = new int[MOST_GUESTS];
        private final int[] home = new int[MOST_GUESTS];
        private final int[] weight = new int[MOST_GUESTS];
        private final int[] state = new int[MOST_GUESTS];
        private final int[] grudges = new int[MOST_GUESTS];
        private final int[] pressesOf = new int[MOST_GUESTS];
        private final int[] ridden = new int[MOST_GUESTS];

        static boolean isFloor(int f) {
            return f >= 0 && f < FLOORS;
        }

        static boolean isWeight(int w) {
            return w >= 1 && w <= MOST_WEIGHT;
        }

        static boolean isSetting(int what) {
            return what >= 0 && what < LEAST_VALUE.length;
        }

        static boolean isSettingValue(int what, int v) {
            return isSetting(what) && v >= LEAST_VALUE[what] && v <= GREATEST_VALUE[what];
        }

        boolean isGuest(int g) {
            return g >= 0 && g < guests;
        }

        boolean isFull() {
            return guests >= MOST_GUESTS;
        }

        int guestCount() {
            return guests;
        }

        void copyFrom(Hotel other) {
            guests = other.guests;
            floor = other.floor;
            seconds = other.seconds;
            presses = other.presses;
            refusals = other.refusals;
            floorsGone = other.floorsGone;
            cameHome = other.cameHome;
            System.arraycopy(other.settings, 0, settings, 0, settings.length);
            System.arraycopy(other.button, 0, button, 0, MOST_GUESTS);
            System.arraycopy(other.waitingFloor, 0, waitingFloor, 0, MOST_GUESTS);
            System.arraycopy(other.home, 0, home, 0, MOST_GUESTS);
            System.arraycopy(other.weight, 0, weight, 0, MOST_GUESTS);
            System.arraycopy(other.state, 0, state, 0, MOST_GUESTS);
            System.arraycopy(other.grudges, 0, grudges, 0, MOST_GUESTS);
            System.arraycopy(other.pressesOf, 0, pressesOf, 0, MOST_GUESTS);
            System.arraycopy(other.ridden, 0, ridden, 0, MOST_GUESTS);
        }

        // ---- what there is

        int number(int what) {
            switch (what) {
                case 0:
                    return guests;
                case ELEVATOR_FLOOR:
                    return floor;
                case 2:
                    return weightOfRiders();
                case 3:
                    return guestsIn(WAITS);
                case 4:
                    return guestsIn(RIDES);
                case ARE_HOME:
                    return guestsIn(IS_HOME);
                case SECONDS:
                    return seconds;
                case PRESSES:
                    return presses;
                case 8:
                    return refusals;
                case 9:
                    return floorsGone;
                case 10:
                    return allGrudges();
                case CAME_HOME:
                    return cameHome;
                default:
                    return NONE;
            }
        }

        int guestNumber(int g, int what) {
            if (!isGuest(g)) {
                return NONE;
            }
            switch (what) {
                case 0:
                    return button[g];
                case 1:
                    return home[g];
                case 2:
                    return weight[g];
                case 3:
                    return state[g];
                case 4:
                    return whereIs(g);
                case 5:
                    return grudges[g];
                case 6:
                    return pressesOf[g];
                case 7:
                    return ridden[g];
                default:
                    return NONE;
            }
        }

        int stateOf(int g) {
            return isGuest(g) ? state[g] : NONE;
        }

        int grudgesOf(int g) {
            return isGuest(g) ? grudges[g] : NONE;
        }

        int settingOf(int what) {
            return isSetting(what) ? settings[what] : NONE;
        }

        int floorSet(int f, int what) {
            int set = 0;
            for (int g = 0; g < guests; g++) {
                if (belongsTo(g, f, what)) {
                    set |= 1 << g;
                }
            }
            return set;
        }

        private boolean belongsTo(int g, int f, int what) {
            if (g < 0 || g >= guests) {
                return false;
            }
            switch (what) {
                case 0:
                    return state[g] == WAITS && waitingFloor[g] == f;
                case 1:
                    return state[g] == IS_HOME && home[g] == f;
                default:
                    return button[g] == f;
            }
        }

        private int whereIs(int g) {
            if (!isGuest(g)) {
                return NONE;
            }
            if (state[g] == RIDES) {
                return floor;
            }
            return state[g] == IS_HOME ? home[g] : waitingFloor[g];
        }

        private int guestsIn(int wanted) {
            int count = 0;
            for (int g = 0; g < guests; g++) {
                if (state[g] == wanted) {
                    count++;
                }
            }
            return count;
        }

        boolean areAllHome() {
            return guestsIn(IS_HOME) == guests;
        }

        private int weightOfRiders() {
            int sum = 0;
            for (int g = 0; g < guests; g++) {
                if (state[g] == RIDES) {
                    sum += weight[g];
                }
            }
            return sum;
        }

        int allGrudges() {
            int sum = 0;
            for (int g = 0; g < guests; g++) {
                sum += grudges[g];
            }
            return sum;
        }

        // ---- what changes it

        int admit(int buttonFloor, int at, int homeFloor, int w) {
            if (!isFloor(buttonFloor) || !isFloor(at) || !isFloor(homeFloor)) {
                return NONE;
            }
            if (!isWeight(w) || isFull()) {
                return NONE;
            }
            int g = guests;
            guests = g + 1;
            button[g] = buttonFloor;
            waitingFloor[g] = at;
            home[g] = homeFloor;
            weight[g] = w;
            state[g] = at == homeFloor ? IS_HOME : WAITS;
            grudges[g] = 0;
            pressesOf[g] = 0;
            ridden[g] = 0;
            return g;
        }

        int dismiss(int g) {
            if (!isGuest(g)) {
                return NONE;
            }
            int had = grudges[g];
            for (int next = g + 1; next < guests; next++) {
                moveGuest(next, next - 1);
            }
            guests--;
            return had;
        }

        private void moveGuest(int from, int to) {
            if (!isGuest(from) || !isGuest(to)) {
                return;
            }
            button[to] = button[from];
            waitingFloor[to] = waitingFloor[from];
            home[to] = home[from];
            weight[to] = weight[from];
            state[to] = state[from];
            grudges[to] = grudges[from];
            pressesOf[to] = pressesOf[from];
            ridden[to] = ridden[from];
        }

        void letAllRest() {
            seconds += REST_SECONDS;
            for (int g = 0; g < guests; g++) {
                if (grudges[g] > 0) {
                    grudges[g]--;
                }
            }
        }

        int change(int what, int v) {
            if (!isSettingValue(what, v)) {
                return NONE;
            }
            int previous = settings[what];
            settings[what] = v;
            return previous;
        }

        /** Why the guest does not press: 0 if the guest does, NONE if there is no such guest. */
        int reasonOf(int g) {
            if (!isGuest(g)) {
                return NONE;
            }
            if (state[g] == IS_HOME) {
                return 1;
            }
            if (grudges[g] >= settings[PATIENCE]) {
                return 2;
            }
            return floor == button[g] ? 3 : 0;
        }

        /** A press of which no refusal is counted; tells whether the elevator goes. */
        boolean goIfWilling(int g) {
            if (reasonOf(g) != 0) {
                return false;
            }
            goFor(g);
            return true;
        }

        int pressBy(int g) {
            int reason = reasonOf(g);
            if (reason == 0) {
                goFor(g);
            } else if (reason != NONE) {
                refusals++;
            }
            return reason;
        }

        /** Who would wait at the floor of the guest's button if the elevator went there now. */
        int standingBehind(int g) {
            if (!isGuest(g) || floor == button[g]) {
                return 0;
            }
            goFor(g);
            return floorSet(floor, 0);
        }

        private void goFor(int g) {
            if (!isGuest(g)) {
                return;
            }
            presses++;
            pressesOf[g]++;
            travelTo(button[g]);
            letOut();
            letIn();
        }

        private void travelTo(int target) {
            int low = target < floor ? target : floor;
            int high = target < floor ? floor : target;
            int distance = high - low;
            for (int g = 0; g < guests; g++) {
                int hoped = hopedStop(g);
                if (low < hoped && hoped < high) {
                    addGrudge(g);
                }
                if (state[g] == RIDES) {
                    ridden[g] += distance;
                }
            }
            seconds += distance * settings[FLOOR_SECONDS] + DOOR_SECONDS;
            floorsGone += distance;
            floor = target;
        }

        /** The one floor at which the guest takes it ill that the elevator passes; NONE at home. */
        private int hopedStop(int g) {
            if (g < 0 || g >= guests || state[g] == IS_HOME) {
                return NONE;
            }
            return state[g] == RIDES ? home[g] : waitingFloor[g];
        }

        private void addGrudge(int g) {
            if (g >= 0 && g < guests && grudges[g] < MOST_GRUDGES) {
                grudges[g]++;
            }
        }

        private void letOut() {
            for (int g = 0; g < guests; g++) {
                if (state[g] == RIDES && home[g] == floor) {
                    state[g] = IS_HOME;
                    grudges[g] = 0;
                    cameHome++;
                }
            }
        }

        private void letIn() {
            int riding = weightOfRiders();
            for (int g = 0; g < guests; g++) {
                if (state[g] != WAITS || waitingFloor[g] != floor) {
                    continue;
                }
                if (riding + weight[g] <= settings[GREATEST_LOAD]) {
                    riding += weight[g];
                    state[g] = RIDES;
                    grudges[g] = 0;
                } else {
                    addGrudge(g);
                }
            }
        }

        // ---- positions

        /** All that presses change and that decides about later presses, as one number. */
        int position() {
            int packed = floor;
            for (int g = 0; g < guests; g++) {
                packed |= (state[g] << 4 | grudges[g]) << (3 + 6 * g);
            }
            return packed;
        }

        /** Takes a position of a hotel with the same guests and settings. */
        void takePosition(int packed) {
            floor = packed & 7;
            for (int g = 0; g < guests; g++) {
                int bits = packed >> (3 + 6 * g);
                state[g] = (bits >> 4) & 3;
                grudges[g] = bits & 15;
            }
        }
    }

    /** The states to which undo goes back, the oldest first. */
    private static final class Past {
        private static final int MOST_STATES = 14;

        private final Hotel[] states = new Hotel[MOST_STATES];
        private int count;

        boolean isEmpty() {
            return count == 0;
        }

        int size() {
            return count;
        }

        void forgetAll() {
            count = 0;
        }

        void remember(Hotel now) {
            if (count >= states.length) {
                forgetOldest();
            }
            Hotel kept = states[count];
            if (kept == null) {
                kept = new Hotel();
                states[count] = kept;
            }
            kept.copyFrom(now);
            count++;
        }

        /** The oldest one's object goes behind the others, to be used again. */
        private void forgetOldest() {
            Hotel oldest = states[0];
            for (int i = 1; i < states.length; i++) {
                states[i - 1] = states[i];
            }
            states[states.length - 1] = oldest;
            count = states.length - 1;
        }

        void takeBack(Hotel now) {
            if (count <= 0) {
                return;
            }
            count--;
            Hotel last = states[count];
            if (last != null) {
                now.copyFrom(last);
            }
        }
    }

    /** Looks for the fewest presses until all guests are home, on a hotel of its own. */
    private static final class Search {
        /** All positions behind 0 to 4 presses of 4 guests; those behind the fifth are not kept. */
        private static final int MOST_POSITIONS = 1 + 4 + 16 + 64 + 256;

        private final Hotel trial = new Hotel();
        private final int[] positions = new int[MOST_POSITIONS];
        /** By the same index: behind how many presses the position is. */
        private final int[] behind = new int[MOST_POSITIONS];
        private int count;

        int fewestByRows(Hotel now) {
            trial.copyFrom(now);
            int start = trial.position();
            for (int n = 0; n <= MOST_PRESSES; n++) {
                if (aRowBringsAllHome(trial, start, n)) {
                    return n;
                }
            }
            return NONE;
        }

        /** Rows with a refused press are not followed: they bring what a shorter row brings. */
        private static boolean aRowBringsAllHome(Hotel trial, int from, int left) {
            trial.takePosition(from);
            if (left <= 0 || left > MOST_PRESSES) {
                return left == 0 && trial.areAllHome();
            }
            for (int g = 0; g < trial.guestCount(); g++) {
                trial.takePosition(from);
                if (trial.goIfWilling(g) && aRowBringsAllHome(trial, trial.position(), left - 1)) {
                    return true;
                }
            }
            return false;
        }

        int fewestByPositions(Hotel now) {
            trial.copyFrom(now);
            if (trial.areAllHome()) {
                return 0;
            }
            count = 0;
            keepIfNew(trial.position(), 0);
            for (int i = 0; i < count && i < MOST_POSITIONS; i++) {
                int presses = behind[i] + 1;
                for (int g = 0; g < trial.guestCount(); g++) {
                    trial.takePosition(positions[i]);
                    if (!trial.goIfWilling(g)) {
                        continue;
                    }
                    if (trial.areAllHome()) {
                        return presses;
                    }
                    if (presses < MOST_PRESSES) {
                        keepIfNew(trial.position(), presses);
                    }
                }
            }
            return NONE;
        }

        private void keepIfNew(int position, int presses) {
            for (int i = 0; i < count && i < MOST_POSITIONS; i++) {
                if (positions[i] == position) {
                    return;
                }
            }
            if (count < MOST_POSITIONS) {
                positions[count] = position;
                behind[count] = presses;
                count++;
            }
        }

        int bestPress(Hotel now) {
            int fewest = fewestByPositions(now);
            if (fewest <= 0) {
                return NONE;
            }
            trial.copyFrom(now);
            int start = trial.position();
            for (int g = 0; g < trial.guestCount(); g++) {
                trial.takePosition(start);
                if (trial.goIfWilling(g) && aRowBringsAllHome(trial, trial.position(), fewest - 1)) {
                    return g;
                }
            }
            return NONE;
        }
    }

    /** The text buffer, and what is allowed in it. */
    private static final class HotelText {
        private static final int MOST_SIGNS = 120;

        private final char[] signs = new char[MOST_SIGNS];
        private int length;

        boolean isFull() {
            return length >= signs.length;
        }

        int size() {
            return length;
        }

        int add(char sign) {
            if (length < signs.length) {
                signs[length] = sign;
                length++;
            }
            return length;
        }

        int empty() {
            int previous = length;
            length = 0;
            return previous;
        }

        /** NONE behind the end of the text: no character has this code. */
        int signAt(int at) {
            return at >= 0 && at < length ? signs[at] : NONE;
        }

        int digitAt(int at) {
            int sign = signAt(at);
            return sign >= '0' && sign <= '9' ? sign - '0' : NONE;
        }

        boolean isCommand(int at) {
            return digitsOf(signAt(at)) != NONE;
        }

        /** How many digits a command has; NONE if no command begins with the sign. */
        private static int digitsOf(int sign) {
            switch (sign) {
                case 'g':
                    return 4;
                case 'e':
                    return 3;
                case 'p':
                case 'l':
                    return 1;
                case 'r':
                case 'b':
                    return 0;
                default:
                    return NONE;
            }
        }

        int firstError() {
            if (signAt(0) != 'H') {
                return 0;
            }
            int command = NONE;
            int missing = 0;
            for (int at = 1; at < length; at++) {
                if (missing > 0) {
                    if (!isDigitAllowed(command, missing, at)) {
                        return at;
                    }
                    missing--;
                } else if (isCommand(at)) {
                    command = signAt(at);
                    missing = digitsOf(command);
                } else {
                    return at;
                }
            }
            return missing > 0 ? length : NONE;
        }

        /** Whether the digit may stand where as many digits of the command are missing. */
        private boolean isDigitAllowed(int command, int missing, int at) {
            int digit = digitAt(at);
            int least = command == 'g' && missing == 1 ? 1 : 0;
            return digit >= least && digit <= greatestDigit(command, missing, digitAt(at - 1));
        }

        private static int greatestDigit(int command, int missing, int before) {
            if (command == 'g') {
                return missing == 1 ? 4 : 6;
            }
            if (command != 'e') {
                return 3;
            }
            if (missing == 3) {
                return 2;
            }
            if (missing == 2) {
                return 1;
            }
            return before == 1 ? 6 : 9;
        }
    }

    /** One command of a script. */
    private static final class Script {
        static boolean succeeds(Hotel hotel, int group) {
            int second = group / 1000 % 10;
            int third = group / 100 % 10;
            int fourth = group / 10 % 10;
            int last = group % 10;
            switch (group / 10000) {
                case 1:
                    return hotel.admit(second, third, fourth, last) != NONE;
                case 2:
                    return group % 1000 == 0 && hotel.pressBy(second) == 0;
                case 3:
                    return group % 10000 < 10 && restTimes(hotel, last);
                case 4:
                    return group % 1000 == 0 && hotel.dismiss(second) != NONE;
                case 5:
                    return third == 0 && hotel.change(second, group % 100) != NONE;
                case 6:
                    return group % 1000 < 10 && hotel.stateOf(second) == last;
                case 7:
                    return group % 1000 < 10 && hotel.isGuest(second)
                            && hotel.grudgesOf(second) <= last;
                case 8:
                    return group % 10000 < 10 && hotel.number(Hotel.ARE_HOME) >= last;
                case 9:
                    return second == 0 && hotel.number(Hotel.SECONDS) <= group % 1000;
                default:
                    return false;
            }
        }

        private static boolean restTimes(Hotel hotel, int times) {
            for (int i = 0; i < times; i++) {
                hotel.letAllRest();
            }
            return true;
        }
    }

    /** One turn of a simulation. */
    private static final class Turn {
        static void take(Hotel hotel, int r) {
            int q = r / 16;
            switch (r % 16) {
                case 0:
                case 1:
                case 2:
                    hotel.admit(q % 7, q / 8 % 7, q / 64 % 7, 1 + q / 512 % 4);
                    break;
                case 3:
                    if (q / 4 % 3 == 0) {
                        hotel.dismiss(q % 4);
                    }
                    break;
                case 4:
                    hotel.letAllRest();
                    break;
                case 5:
                    if (q / 16 % 2 == 0) {
                        hotel.change(0, 4 + q % 13);
                    } else {
                        hotel.change(1, 1 + q % 9);
                    }
                    break;
                default:
                    hotel.pressBy(q % 4);
                    break;
            }
        }
    }

    /** Decimal digits of a number that is not negative. */
    private static final class Digits {
        /** The number without its last digits. */
        static long without(long number, int digits) {
            long left = number;
            for (int i = 0; i < digits; i++) {
                left /= 10;
            }
            return left;
        }
    }
}
