import java.util.ArrayDeque;
import java.util.regex.Matcher;
import java.util.regex.Pattern;

/**
 * The document once more, word by word and without a care for speed or room, to be compared with
 * the class in long runs of calls. It shares no code with the class and, where it can, no way of
 * finding an answer either: one row of numbers a state, frequencies one by one, orders by a
 * regular expression.
 */
final class Model {
    private static final String ORDER =
        "(s[0-2]=(4[7-9][0-9]{2}|5[0-2][0-9]{2}|5300)|[rhco][0-2]|f[0-3][+-]|t[1-9][0-9]?)";
    private static final Pattern ORDERS = Pattern.compile(ORDER + "(;" + ORDER + ")*");

    private static final int RATING = 0;
    private static final int DROOP = 1;
    private static final int SPEED = 2;
    private static final int RUNS = 3;
    private static final int CLOSED = 4;
    private static final int PHASE = 6;
    private static final int OVER = 8;
    private static final int DRIVEN = 9;
    private static final int ENERGY = 10;
    private static final int TRIPS = 11;

    /** A set's numbers stand at 13 times its number, as diesel() numbers them. */
    private static final int LINES = 39;
    private static final int SETTINGS = 51;
    private static final int TICKS = 55;
    private static final int BOARD_ENERGY = 56;

    private int[] state = new int[57];
    private int[] snapshot;
    private final ArrayDeque<int[]> saved = new ArrayDeque<>();
    private String buffer = "";

    Model() {
        for (int set = 0; set < 3; set++) {
            state[13 * set + RATING] = 200 + 100 * set;
            state[13 * set + DROOP] = 200;
            state[13 * set + SPEED] = 5000;
        }
        for (int feeder = 0; feeder < 4; feeder++) {
            state[LINES + 3 * feeder + 1] = 1;
        }
        int[] first = {3, 2, 10, 30};
        System.arraycopy(first, 0, state, SETTINGS, 4);
    }

    // ---- what follows from a state

    private static boolean alive(int[] s) {
        return s[CLOSED] + s[13 + CLOSED] + s[26 + CLOSED] > 0;
    }

    private static int load(int[] s) {
        int load = 0;
        for (int feeder = 0; feeder < 4; feeder++) {
            load += s[LINES + 3 * feeder] * s[LINES + 3 * feeder + 1];
        }
        return alive(s) ? load : 0;
    }

    private static int given(int[] s, int set, int frequency) {
        int at = 13 * set;
        return s[at + CLOSED] * ((s[at + SPEED] - frequency) * s[at + RATING] / s[at + DROOP]);
    }

    private static int given(int[] s, int frequency) {
        return given(s, 0, frequency) + given(s, 1, frequency) + given(s, 2, frequency);
    }

    private static int sum(int[] numbers) {
        return numbers[0] + numbers[1] + numbers[2];
    }

    private static int frequency(int[] s) {
        if (!alive(s)) {
            return 0;
        }
        int load = load(s);
        for (int frequency = 5300; frequency >= 4700; frequency--) {
            if (given(s, frequency) >= load) {
                return frequency;
            }
        }
        return 4700;
    }

    private static int[] powers(int[] s) {
        return powers(s, frequency(s));
    }

    private static int[] powers(int[] s, int frequency) {
        int[] powers = {given(s, 0, frequency), given(s, 1, frequency), given(s, 2, frequency)};
        int more = sum(powers) - load(s);
        for (int set = 0; set < 3 && more > 0; set++) {
            if (s[13 * set + CLOSED] == 1) {
                powers[set] -= more;
                more = 0;
            }
        }
        return powers;
    }

    private static int lack(int[] s, int[] powers) {
        return sum(powers) < load(s) ? load(s) - sum(powers) : 0;
    }

    private static int lack(int[] s) {
        return lack(s, powers(s));
    }

    private static int lamps(int[] s, int set) {
        int phase = s[13 * set + PHASE];
        return phase < 1000 - phase ? phase : 1000 - phase;
    }

    private static int why(int[] s, int set) {
        if (s[13 * set + RUNS] == 0) {
            return 1;
        }
        if (s[13 * set + CLOSED] == 1) {
            return 2;
        }
        if (alive(s)) {
            int slip = s[13 * set + SPEED] - frequency(s);
            if (slip > s[SETTINGS + 2] || -slip > s[SETTINGS + 2]) {
                return 3;
            }
            if (lamps(s, set) > s[SETTINGS + 3]) {
                return 4;
            }
        }
        return 0;
    }

    private static void clear(int[] s, int set) {
        s[13 * set + PHASE] = 0;
        s[13 * set + OVER] = 0;
        s[13 * set + DRIVEN] = 0;
    }

    private static int tick(int[] s) {
        int frequency = frequency(s);
        int[] powers = powers(s, frequency);
        int lack = lack(s, powers);
        boolean alive = alive(s);
        s[BOARD_ENERGY] += load(s) - lack;
        for (int set = 0; set < 3; set++) {
            int at = 13 * set;
            s[at + ENERGY] += powers[set];
            if (s[at + RUNS] == 1 && s[at + CLOSED] == 0 && alive) {
                s[at + PHASE] = (s[at + PHASE] + s[at + SPEED] - frequency + 1000) % 1000;
            }
            if (s[at + CLOSED] == 1) {
                boolean over = powers[set] > s[at + RATING] + s[at + RATING] / 10;
                boolean driven = powers[set] < 0 - s[at + RATING] / 20;
                s[at + OVER] = over ? s[at + OVER] + 1 : 0;
                s[at + DRIVEN] = driven ? s[at + DRIVEN] + 1 : 0;
            }
        }
        for (int feeder = 3; feeder >= 0 && lack > 0; feeder--) {
            int at = LINES + 3 * feeder;
            if (s[at] > 0 && s[at + 1] == 1) {
                s[at + 1] = 0;
                s[at + 2]++;
                lack = 0;
            }
        }
        int tripped = 0;
        for (int set = 0; set < 3; set++) {
            int at = 13 * set;
            if (s[at + CLOSED] == 1
                    && (s[at + OVER] >= s[SETTINGS] || s[at + DRIVEN] >= s[SETTINGS + 1])) {
                s[at + CLOSED] = 0;
                clear(s, set);
                s[at + TRIPS]++;
                tripped++;
            }
        }
        s[TICKS]++;
        return tripped;
    }

    // ---- the calls

    private void save() {
        saved.addLast(state.clone());
        if (saved.size() > 6) {
            saved.removeFirst();
        }
    }

    private static void index(int value, int count) {
        if (value < 0 || value >= count) {
            throw new IndexOutOfBoundsException();
        }
    }

    private static void argument(boolean right) {
        if (!right) {
            throw new IllegalArgumentException();
        }
    }

    private static void state(boolean right) {
        if (!right) {
            throw new IllegalStateException();
        }
    }

    private static boolean in(int value, int least, int most) {
        return least <= value && value <= most;
    }

    private int put(int at, int value) {
        int before = state[at];
        state[at] = value;
        return before;
    }

    int build(int set, int rating, int droop) {
        index(set, 3);
        argument(in(rating, 100, 500) && in(droop, 100, 400));
        state(state[13 * set + RUNS] == 0);
        save();
        put(13 * set + DROOP, droop);
        return put(13 * set + RATING, rating);
    }

    int speed(int set, int speed) {
        index(set, 3);
        argument(in(speed, 4700, 5300));
        save();
        return put(13 * set + SPEED, speed);
    }

    /** One of run, halt, close, open, by its letter. */
    int command(char letter, int set) {
        index(set, 3);
        state(may(letter, set));
        save();
        command(state, letter, set);
        return letter == 'r' || letter == 'h' ? count(6) : frequency(state);
    }

    private boolean may(char letter, int set) {
        int at = 13 * set;
        switch (letter) {
            case 'r': return state[at + RUNS] == 0;
            case 'h': return state[at + RUNS] == 1 && state[at + CLOSED] == 0;
            case 'c': return why(state, set) == 0;
            default: return state[at + CLOSED] == 1;
        }
    }

    private static void command(int[] s, char letter, int set) {
        int what = letter == 'r' || letter == 'h' ? RUNS : CLOSED;
        s[13 * set + what] = letter == 'r' || letter == 'c' ? 1 : 0;
        clear(s, set);
    }

    int load(int feeder, int load) {
        index(feeder, 4);
        argument(in(load, 0, 300));
        save();
        return put(LINES + 3 * feeder, load);
    }

    int feeder(int feeder, int on) {
        index(feeder, 4);
        argument(in(on, 0, 1));
        save();
        return put(LINES + 3 * feeder + 1, on);
    }

    int pass(int ticks) {
        argument(in(ticks, 1, 99));
        save();
        int tripped = 0;
        for (int i = 0; i < ticks; i++) {
            tripped += tick(state);
        }
        return tripped;
    }

    int set(int setting, int value) {
        int[][] range = {{1, 9}, {1, 9}, {0, 50}, {0, 200}};
        index(setting, 4);
        argument(in(value, range[setting][0], range[setting][1]));
        save();
        return put(SETTINGS + setting, value);
    }

    int append(int code) {
        argument(in(code, 33, 126));
        state(buffer.length() < 60);
        buffer += (char) code;
        return buffer.length();
    }

    int clearBuffer() {
        int length = buffer.length();
        buffer = "";
        return length;
    }

    int firstError() {
        for (int length = 1; length <= buffer.length(); length++) {
            Matcher matcher = ORDERS.matcher(buffer.substring(0, length));
            if (!matcher.matches() && !matcher.hitEnd()) {
                return length - 1;
            }
        }
        return buffer.length();
    }

    int obey() {
        argument(ORDERS.matcher(buffer).matches());
        save();
        int done = 0;
        for (String order : buffer.split(";")) {
            char letter = order.charAt(0);
            int number = Integer.parseInt(order.replaceAll("^.([0-9]+).*$", "$1"));
            if (letter == 't') {
                for (int i = 0; i < number; i++) {
                    tick(state);
                }
            } else if (letter == 's') {
                put(13 * number + SPEED, Integer.parseInt(order.substring(3)));
            } else if (letter == 'f') {
                put(LINES + 3 * number + 1, order.endsWith("+") ? 1 : 0);
            } else if (may(letter, number)) {
                command(state, letter, number);
            } else {
                break;
            }
            done++;
        }
        buffer = "";
        return done;
    }

    int keep() {
        snapshot = state.clone();
        return state[TICKS];
    }

    int goBack() {
        state(snapshot != null);
        save();
        state = snapshot.clone();
        return state[TICKS];
    }

    int undo() {
        state(!saved.isEmpty());
        state = saved.removeLast();
        return saved.size();
    }

    int diesel(int set, int what) {
        index(set, 3);
        argument(in(what, 0, 12));
        switch (what) {
            case 5: return powers(state)[set];
            case 7: return lamps(state, set);
            case 12: return why(state, set);
            default: return state[13 * set + what];
        }
    }

    int line(int feeder, int what) {
        index(feeder, 4);
        argument(in(what, 0, 2));
        return state[LINES + 3 * feeder + what];
    }

    private int overSets(int what) {
        return state[what] + state[13 + what] + state[26 + what];
    }

    int count(int what) {
        argument(in(what, 0, 11));
        switch (what) {
            case 0: return state[TICKS];
            case 1:
            case 2: return frequency(state);
            case 3: return load(state);
            case 4: return sum(powers(state));
            case 5: return lack(state);
            case 6: return overSets(RUNS);
            case 7: return overSets(CLOSED);
            case 8: return overSets(TRIPS);
            case 9: return state[LINES + 2] + state[LINES + 5] + state[LINES + 8] + state[LINES + 11];
            case 10: return state[BOARD_ENERGY];
            default: return saved.size();
        }
    }

    int setting(int setting) {
        index(setting, 4);
        return state[SETTINGS + setting];
    }

    int ifSpeed(int set, int speed, int what) {
        index(set, 3);
        argument(in(speed, 4700, 5300) && in(what, 0, 2));
        int[] s = state.clone();
        s[13 * set + SPEED] = speed;
        return what == 0 ? frequency(s) : what == 1 ? powers(s)[set] : lack(s);
    }

    int closeIn(int set) {
        index(set, 3);
        int[] s = state.clone();
        int ticks = 0;
        while (why(s, set) != 0 && ticks <= 500) {
            tick(s);
            ticks++;
        }
        return ticks <= 500 ? ticks : -1;
    }

    private int ratings() {
        int sum = 0;
        for (int set = 0; set < 3; set++) {
            sum += state[13 * set + RATING] * state[13 * set + CLOSED];
        }
        return sum;
    }

    int fairSpeed(int set) {
        index(set, 3);
        if (state[13 * set + CLOSED] == 0) {
            return -1;
        }
        int share = load(state) * state[13 * set + RATING] / ratings();
        int best = -1;
        int least = Integer.MAX_VALUE;
        for (int speed = 5300; speed >= 4700; speed--) {
            int difference = Math.abs(ifSpeed(set, speed, 1) - share);
            if (difference <= least) {
                best = speed;
                least = difference;
            }
        }
        return best;
    }

    int nextTrip() {
        int[] s = state.clone();
        int ticks = 1;
        while (ticks <= 100 && tick(s) == 0) {
            ticks++;
        }
        return ticks <= 100 ? ticks : -1;
    }

    double loadShare() {
        return alive(state) ? (double) load(state) / ratings() : 0.0;
    }

    float meanPower() {
        return state[TICKS] > 0 ? (float) state[BOARD_ENERGY] / state[TICKS] : 0.0f;
    }

    long digest() {
        long hash = 3701;
        for (int what = 0; what <= 11; what++) {
            hash = 31 * hash + count(what);
        }
        for (int setting = 0; setting <= 3; setting++) {
            hash = 31 * hash + setting(setting);
        }
        for (int set = 0; set <= 2; set++) {
            for (int what = 0; what <= 12; what++) {
                hash = 31 * hash + diesel(set, what);
            }
            for (int what = 0; what <= 2; what++) {
                hash = 31 * hash + ifSpeed(set, 5050, what);
            }
            hash = 31 * hash + closeIn(set);
            hash = 31 * hash + fairSpeed(set);
        }
        for (int feeder = 0; feeder <= 3; feeder++) {
            for (int what = 0; what <= 2; what++) {
                hash = 31 * hash + line(feeder, what);
            }
        }
        hash = 31 * hash + nextTrip();
        hash = 31 * hash + Double.doubleToLongBits(loadShare());
        hash = 31 * hash + Float.floatToIntBits(meanPower());
        hash = 31 * hash + (snapshot != null ? 1 : 0);
        hash = 31 * hash + buffer.length();
        for (int i = 0; i < buffer.length(); i++) {
            hash = 31 * hash + buffer.charAt(i);
        }
        return hash;
    }

    String buffer() {
        return buffer;
    }
}
