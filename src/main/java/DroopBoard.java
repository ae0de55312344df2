/**
 * Diesel sets that share a board by droop. What each call promises stands in the document
 * ../shared/DOC.md; the terms used here (slip, lamps, to shed, to trip) are its terms.
 */
public final class DroopBoard {
    /** There is nothing to return. */
    public static final int NONE = -1;

    private static final int SETS = 3;
    private static final int FEEDERS = 4;
    private static final int SETTINGS = 4;
    private static final int LOWEST_SPEED = 4700;
    private static final int HIGHEST_SPEED = 5300;
    private static final int MOST_SAVED = 6;
    private static final int BUFFER_SIZE = 60;
    private static final int MOST_TICKS = 99;

    private static final int LAST_OF_SET = 12;
    private static final int LAST_OF_FEEDER = 2;
    private static final int LAST_COUNT = 11;
    private static final int LAST_IF = 2;

    private static final int OVERLOAD_TICKS = 0;
    private static final int DRIVEN_TICKS = 1;
    private static final int WIDEST_SLIP = 2;
    private static final int BRIGHTEST_LAMPS = 3;
    private static final int[] LEAST_OF_SETTING = {1, 1, 0, 0};
    private static final int[] MOST_OF_SETTING = {9, 9, 50, 200};

    private static final int CLOSE_WITHIN = 500;
    private static final int TRIP_WITHIN = 100;
    private static final int DIGEST_START = 3701;
    private static final int DIGEST_SPEED = 5050;

    private final Board board = new Board();
    // What would be is tried on one board that is used again: no call makes a new one.
    private final Board trial = new Board();
    private final Board snapshot = new Board();
    private boolean hasSnapshot;
    private final History history = new History();
    private final OrderText text = new OrderText();

    public DroopBoard() {
    }

    // ---- sets

    public int build(int set, int rating, int droop)
            throws IndexOutOfBoundsException, IllegalArgumentException, IllegalStateException {
        needSet(set);
        needRange(rating, 100, 500);
        needRange(droop, 100, 400);
        Diesel diesel = board.diesels[set];
        if (diesel.runs) {
            throw new IllegalStateException("the set runs");
        }
        history.save(board);
        int before = diesel.rating;
        diesel.rating = rating;
        diesel.droop = droop;
        return before;
    }

    public int speed(int set, int speed) throws IndexOutOfBoundsException, IllegalArgumentException {
        needSet(set);
        needRange(speed, LOWEST_SPEED, HIGHEST_SPEED);
        history.save(board);
        int before = board.diesels[set].speed;
        board.diesels[set].speed = speed;
        return before;
    }

    public int run(int set) throws IndexOutOfBoundsException, IllegalStateException {
        needSet(set);
        if (!board.diesels[set].canStart()) {
            throw new IllegalStateException("the set runs already");
        }
        history.save(board);
        board.diesels[set].start();
        return board.running();
    }

    public int halt(int set) throws IndexOutOfBoundsException, IllegalStateException {
        needSet(set);
        if (!board.diesels[set].canStop()) {
            throw new IllegalStateException("the set does not run, or its breaker is closed");
        }
        history.save(board);
        board.diesels[set].stop();
        return board.running();
    }

    public int close(int set) throws IndexOutOfBoundsException, IllegalStateException {
        needSet(set);
        if (board.whyNotClosed(set) != 0) {
            throw new IllegalStateException("the breaker can not be closed");
        }
        history.save(board);
        board.diesels[set].closeBreaker();
        return board.frequency();
    }

    public int open(int set) throws IndexOutOfBoundsException, IllegalStateException {
        needSet(set);
        if (!board.diesels[set].closed) {
            throw new IllegalStateException("the breaker is open");
        }
        history.save(board);
        board.diesels[set].openBreaker();
        return board.frequency();
    }

    // ---- feeders, ticks, settings

    public int load(int feeder, int load) throws IndexOutOfBoundsException, IllegalArgumentException {
        needFeeder(feeder);
        needRange(load, 0, 300);
        history.save(board);
        int before = board.feeders[feeder].load;
        board.feeders[feeder].load = load;
        return before;
    }

    public int feeder(int feeder, int on) throws IndexOutOfBoundsException, IllegalArgumentException {
        needFeeder(feeder);
        needRange(on, 0, 1);
        history.save(board);
        int before = oneIf(board.feeders[feeder].on);
        board.feeders[feeder].on = on == 1;
        return before;
    }

    public int pass(int ticks) throws IllegalArgumentException {
        needRange(ticks, 1, MOST_TICKS);
        history.save(board);
        return board.passTicks(ticks);
    }

    public int set(int setting, int value) throws IndexOutOfBoundsException, IllegalArgumentException {
        needSetting(setting);
        needRange(value, LEAST_OF_SETTING[setting], MOST_OF_SETTING[setting]);
        history.save(board);
        int before = board.settings[setting];
        board.settings[setting] = value;
        return before;
    }

    // ---- texts, the snapshot

    public int append(int code) throws IllegalArgumentException, IllegalStateException {
        needRange(code, 33, 126);
        if (text.isFull()) {
            throw new IllegalStateException("the buffer is full");
        }
        text.add(code);
        return text.length;
    }

    public int clearBuffer() {
        int before = text.length;
        text.length = 0;
        return before;
    }

    public int firstError() {
        return text.firstWrong();
    }

    public int obey() throws IllegalArgumentException {
        if (!text.isComplete()) {
            throw new IllegalArgumentException("the buffer is not complete orders as a text");
        }
        history.save(board);
        int done = 0;
        int start = 0;
        for (int part = 0; part < BUFFER_SIZE && start < text.length; part++) {
            int end = text.endOfPart(start);
            if (!carryOut(start, end)) {
                break;
            }
            done++;
            start = end + 1;
        }
        text.length = 0;
        return done;
    }

    public int keep() {
        snapshot.copyFrom(board);
        hasSnapshot = true;
        return board.ticks;
    }

    public int goBack() throws IllegalStateException {
        if (!hasSnapshot) {
            throw new IllegalStateException("there is no snapshot");
        }
        history.save(board);
        board.copyFrom(snapshot);
        return board.ticks;
    }

    public int undo() throws IllegalStateException {
        if (history.size == 0) {
            throw new IllegalStateException("there is no saved state");
        }
        history.restore(board);
        return history.size;
    }

    // ---- looks; nothing is changed

    public int diesel(int set, int what) throws IndexOutOfBoundsException, IllegalArgumentException {
        needSet(set);
        needRange(what, 0, LAST_OF_SET);
        return tellOfSet(set, what);
    }

    public int line(int feeder, int what) throws IndexOutOfBoundsException, IllegalArgumentException {
        needFeeder(feeder);
        needRange(what, 0, LAST_OF_FEEDER);
        return tellOfFeeder(feeder, what);
    }

    public int count(int what) throws IllegalArgumentException {
        needRange(what, 0, LAST_COUNT);
        return tellCount(what);
    }

    public int setting(int setting) throws IndexOutOfBoundsException {
        needSetting(setting);
        return board.settings[setting];
    }

    // ---- what would be; nothing is changed

    public int ifSpeed(int set, int speed, int what)
            throws IndexOutOfBoundsException, IllegalArgumentException {
        needSet(set);
        needRange(speed, LOWEST_SPEED, HIGHEST_SPEED);
        needRange(what, 0, LAST_IF);
        return tellIfSpeed(set, speed, what);
    }

    public int closeIn(int set) throws IndexOutOfBoundsException {
        needSet(set);
        return ticksUntilClosing(set);
    }

    public int fairSpeed(int set) throws IndexOutOfBoundsException {
        needSet(set);
        return speedForFairShare(set);
    }

    public int nextTrip() {
        trial.copyFrom(board);
        for (int ticks = 1; ticks <= TRIP_WITHIN; ticks++) {
            if (trial.tick() > 0) {
                return ticks;
            }
        }
        return NONE;
    }

    public double loadShare() {
        int ratings = board.ratingsClosed();
        if (ratings == 0) {
            return 0.0;
        }
        return (double) board.demand() / (double) ratings;
    }

    public float meanPower() {
        if (board.ticks == 0) {
            return 0.0f;
        }
        return (float) board.energy / (float) board.ticks;
    }

    public long digest() {
        long hash = DIGEST_START;
        for (int what = 0; what <= LAST_COUNT; what++) {
            hash = mixed(hash, tellCount(what));
        }
        for (int i = 0; i < SETTINGS; i++) {
            hash = mixed(hash, board.settings[i]);
        }
        for (int set = 0; set < SETS; set++) {
            hash = mixedWithSet(hash, set);
        }
        for (int feeder = 0; feeder < FEEDERS; feeder++) {
            for (int what = 0; what <= LAST_OF_FEEDER; what++) {
                hash = mixed(hash, tellOfFeeder(feeder, what));
            }
        }
        hash = mixed(hash, nextTrip());
        hash = mixed(hash, bitsOfDouble(loadShare()));
        hash = mixed(hash, bitsOfFloat(meanPower()));
        hash = mixed(hash, oneIf(hasSnapshot));
        hash = mixed(hash, text.length);
        for (int i = 0; i < text.length; i++) {
            hash = mixed(hash, text.codeAt(i));
        }
        return hash;
    }

    private long mixedWithSet(long before, int set) {
        long hash = before;
        for (int what = 0; what <= LAST_OF_SET; what++) {
            hash = mixed(hash, tellOfSet(set, what));
        }
        for (int what = 0; what <= LAST_IF; what++) {
            hash = mixed(hash, tellIfSpeed(set, DIGEST_SPEED, what));
        }
        hash = mixed(hash, ticksUntilClosing(set));
        return mixed(hash, speedForFairShare(set));
    }

    private static long mixed(long hash, long value) {
        return 31 * hash + value;
    }

    // ---- what the arguments need to be

    private static boolean isSet(int set) {
        return set >= 0 && set < SETS;
    }

    private static boolean isFeeder(int feeder) {
        return feeder >= 0 && feeder < FEEDERS;
    }

    private static void needSet(int set) {
        if (!isSet(set)) {
            throw new IndexOutOfBoundsException("there is no such set");
        }
    }

    private static void needFeeder(int feeder) {
        if (!isFeeder(feeder)) {
            throw new IndexOutOfBoundsException("there is no such feeder");
        }
    }

    private static void needSetting(int setting) {
        if (setting < 0 || setting >= SETTINGS) {
            throw new IndexOutOfBoundsException("there is no such setting");
        }
    }

    private static void needRange(int value, int least, int most) {
        if (value < least || value > most) {
            throw new IllegalArgumentException("a number is out of range");
        }
    }

    // ---- orders; each answers false where the call of its name would throw

    private boolean carryOut(int start, int end) {
        int letter = text.codeAt(start);
        if (letter == 't') {
            board.passTicks(text.number(start + 1, end));
            return true;
        }
        int which = text.number(start + 1, start + 2);
        if (letter == 'f') {
            return switchFeeder(which, text.codeAt(start + 2) == '+');
        }
        if (!isSet(which)) {
            return false;
        }
        if (letter == 's') {
            board.diesels[which].speed = text.number(start + 3, end);
            return true;
        }
        return commandSet(letter, which);
    }

    private boolean switchFeeder(int feeder, boolean on) {
        if (!isFeeder(feeder)) {
            return false;
        }
        board.feeders[feeder].on = on;
        return true;
    }

    private boolean commandSet(int letter, int set) {
        Diesel diesel = board.diesels[set];
        switch (letter) {
            case 'r':
                if (!diesel.canStart()) {
                    return false;
                }
                diesel.start();
                return true;
            case 'h':
                if (!diesel.canStop()) {
                    return false;
                }
                diesel.stop();
                return true;
            case 'c':
                if (board.whyNotClosed(set) != 0) {
                    return false;
                }
                diesel.closeBreaker();
                return true;
            default:
                if (!diesel.closed) {
                    return false;
                }
                diesel.openBreaker();
                return true;
        }
    }

    // ---- answers whose arguments are tested already

    private int tellOfSet(int set, int what) {
        Diesel diesel = board.diesels[set];
        switch (what) {
            case 0: return diesel.rating;
            case 1: return diesel.droop;
            case 2: return diesel.speed;
            case 3: return oneIf(diesel.runs);
            case 4: return oneIf(diesel.closed);
            case 5: return board.power(set, board.frequency());
            case 6: return diesel.phase;
            case 7: return diesel.lamps();
            case 8: return diesel.overloaded;
            case 9: return diesel.driven;
            case 10: return diesel.energy;
            case 11: return diesel.trips;
            default: return board.whyNotClosed(set);
        }
    }

    private int tellOfFeeder(int feeder, int what) {
        switch (what) {
            case 0: return board.feeders[feeder].load;
            case 1: return oneIf(board.feeders[feeder].on);
            default: return board.feeders[feeder].sheds;
        }
    }

    private int tellCount(int what) {
        switch (what) {
            case 0: return board.ticks;
            case 1: return board.frequencyDownwards();
            case 2: return board.frequency();
            case 3: return board.demand();
            case 4: return board.powers(board.frequency());
            case 5: return board.lack(board.frequency());
            case 6: return board.running();
            case 7: return board.closedBreakers();
            case 8: return board.trips();
            case 9: return board.sheds();
            case 10: return board.energy;
            default: return history.size;
        }
    }

    private int tellIfSpeed(int set, int speed, int what) {
        trial.copyFrom(board);
        trial.diesels[set].speed = speed;
        int frequency = trial.frequency();
        switch (what) {
            case 0: return frequency;
            case 1: return trial.power(set, frequency);
            default: return trial.lack(frequency);
        }
    }

    private int ticksUntilClosing(int set) {
        // A set that does not run never begins to by ticks alone.
        if (!board.diesels[set].runs) {
            return NONE;
        }
        trial.copyFrom(board);
        for (int ticks = 0; ticks <= CLOSE_WITHIN; ticks++) {
            if (trial.whyNotClosed(set) == 0) {
                return ticks;
            }
            trial.tick();
        }
        return NONE;
    }

    private int speedForFairShare(int set) {
        int ratings = board.ratingsClosed();
        if (!board.diesels[set].closed || ratings == 0) {
            return NONE;
        }
        int share = board.demand() * board.diesels[set].rating / ratings;
        int best = NONE;
        int least = 0;
        trial.copyFrom(board);
        for (int speed = LOWEST_SPEED; speed <= HIGHEST_SPEED; speed++) {
            trial.diesels[set].speed = speed;
            int difference = Math.abs(trial.power(set, trial.frequency()) - share);
            if (best == NONE || difference < least) {
                least = difference;
                best = speed;
            }
        }
        return best;
    }

    private static int oneIf(boolean holds) {
        return holds ? 1 : 0;
    }

    // The language leaves no library call for the bits of a double or a float, so they are
    // found by arithmetic that is exact; both shares are 0 or far above the least normal number.

    private static long bitsOfDouble(double value) {
        if (value <= 0.0) {
            return 0L;
        }
        double fraction = value;
        int exponent = 1023;
        for (int i = 0; i < 1023 && fraction >= 2.0; i++) {
            fraction = fraction / 2.0;
            exponent++;
        }
        for (int i = 0; i < 1022 && fraction < 1.0; i++) {
            fraction = fraction * 2.0;
            exponent--;
        }
        return ((long) exponent << 52) + (long) ((fraction - 1.0) * (double) (1L << 52));
    }

    private static int bitsOfFloat(float value) {
        if (value <= 0.0f) {
            return 0;
        }
        float fraction = value;
        int exponent = 127;
        for (int i = 0; i < 127 && fraction >= 2.0f; i++) {
            fraction = fraction / 2.0f;
            exponent++;
        }
        for (int i = 0; i < 126 && fraction < 1.0f; i++) {
            fraction = fraction * 2.0f;
            exponent--;
        }
        return (exponent << 23) + (int) ((fraction - 1.0f) * (float) (1 << 23));
    }

    /** One set, its breaker and its accounts. */
    private static final class Diesel {
        int rating;
        int droop = 200;
        int speed = 5000;
        boolean runs;
        boolean closed;
        int phase;
        int overloaded;
        int driven;
        int energy;
        int trips;

        Diesel(int rating) {
            this.rating = rating;
        }

        void copyFrom(Diesel other) {
            rating = other.rating;
            droop = other.droop;
            speed = other.speed;
            runs = other.runs;
            closed = other.closed;
            phase = other.phase;
            overloaded = other.overloaded;
            driven = other.driven;
            energy = other.energy;
            trips = other.trips;
        }

        boolean canStart() {
            return !runs;
        }

        boolean canStop() {
            return runs && !closed;
        }

        void start() {
            runs = true;
            beginAnew();
        }

        void stop() {
            runs = false;
            beginAnew();
        }

        void closeBreaker() {
            closed = true;
            beginAnew();
        }

        void openBreaker() {
            closed = false;
            beginAnew();
        }

        private void beginAnew() {
            phase = 0;
            overloaded = 0;
            driven = 0;
        }

        int lamps() {
            return Math.min(phase, 1000 - phase);
        }

        /** What it would give at a frequency, before the lowest set is relieved. */
        int gives(int frequency) {
            if (!closed || droop == 0) {
                return 0;
            }
            return (speed - frequency) * rating / droop;
        }

        /** Its part of a tick, but for the trip; the frequency is 0 if the board is not alive. */
        void tick(int power, int frequency) {
            energy += power;
            if (closed) {
                overloaded = power > rating + rating / 10 ? overloaded + 1 : 0;
                driven = power < -(rating / 20) ? driven + 1 : 0;
            } else if (runs && frequency > 0) {
                phase = Math.floorMod(phase + speed - frequency, 1000);
            }
        }
    }

    private static final class Feeder {
        int load;
        boolean on = true;
        int sheds;

        void copyFrom(Feeder other) {
            load = other.load;
            on = other.on;
            sheds = other.sheds;
        }
    }

    /** All that is saved and restored; what follows from it is found anew when it is asked for. */
    private static final class Board {
        // 4700 to 5300 are 601 frequencies, fewer than 2 to the 10th.
        private static final int HALVINGS = 10;

        final Diesel[] diesels = new Diesel[SETS];
        final Feeder[] feeders = new Feeder[FEEDERS];
        final int[] settings = {3, 2, 10, 30};
        int ticks;
        int energy;

        Board() {
            for (int i = 0; i < diesels.length; i++) {
                diesels[i] = new Diesel(200 + 100 * i);
            }
            for (int i = 0; i < feeders.length; i++) {
                feeders[i] = new Feeder();
            }
        }

        void copyFrom(Board other) {
            for (int i = 0; i < SETS; i++) {
                diesels[i].copyFrom(other.diesels[i]);
            }
            for (int i = 0; i < FEEDERS; i++) {
                feeders[i].copyFrom(other.feeders[i]);
            }
            for (int i = 0; i < SETTINGS; i++) {
                settings[i] = other.settings[i];
            }
            ticks = other.ticks;
            energy = other.energy;
        }

        private boolean alive() {
            for (int i = 0; i < diesels.length; i++) {
                if (diesels[i].closed) {
                    return true;
                }
            }
            return false;
        }

        private int lowestClosed() {
            for (int i = 0; i < diesels.length; i++) {
                if (diesels[i].closed) {
                    return i;
                }
            }
            return NONE;
        }

        /** The load of the board. */
        int demand() {
            if (!alive()) {
                return 0;
            }
            int sum = 0;
            for (int i = 0; i < feeders.length; i++) {
                if (feeders[i].on) {
                    sum += feeders[i].load;
                }
            }
            return sum;
        }

        /** What all sets together would give at a frequency; never more at a greater one. */
        private int total(int frequency) {
            int sum = 0;
            for (int i = 0; i < diesels.length; i++) {
                sum += diesels[i].gives(frequency);
            }
            return sum;
        }

        /** The frequency, told by halving. */
        int frequency() {
            if (!alive()) {
                return 0;
            }
            int demand = demand();
            int low = LOWEST_SPEED;
            int high = HIGHEST_SPEED;
            for (int i = 0; i < HALVINGS && low < high; i++) {
                int middle = (low + high + 1) / 2;
                if (total(middle) >= demand) {
                    low = middle;
                } else {
                    high = middle - 1;
                }
            }
            return low;
        }

        int frequencyDownwards() {
            if (!alive()) {
                return 0;
            }
            int demand = demand();
            for (int frequency = HIGHEST_SPEED; frequency > LOWEST_SPEED; frequency--) {
                if (total(frequency) >= demand) {
                    return frequency;
                }
            }
            return LOWEST_SPEED;
        }

        int power(int set, int frequency) {
            int given = diesels[set].gives(frequency);
            if (set != lowestClosed()) {
                return given;
            }
            return given - Math.max(total(frequency) - demand(), 0);
        }

        int powers(int frequency) {
            int sum = 0;
            for (int i = 0; i < diesels.length; i++) {
                sum += power(i, frequency);
            }
            return sum;
        }

        // The lowest set is relieved only of what is above the load, so the total tells the lack.
        int lack(int frequency) {
            return Math.max(demand() - total(frequency), 0);
        }

        int whyNotClosed(int set) {
            Diesel diesel = diesels[set];
            if (!diesel.runs) {
                return 1;
            }
            if (diesel.closed) {
                return 2;
            }
            if (!alive()) {
                return 0;
            }
            if (Math.abs(diesel.speed - frequency()) > settings[WIDEST_SLIP]) {
                return 3;
            }
            return diesel.lamps() > settings[BRIGHTEST_LAMPS] ? 4 : 0;
        }

        /** Lets ticks pass; answers how many breakers tripped in them. */
        int passTicks(int ticks) {
            int tripped = 0;
            for (int i = 0; i < ticks; i++) {
                tripped += tick();
            }
            return tripped;
        }

        /** Lets one tick pass; answers how many breakers tripped in it. */
        int tick() {
            int frequency = frequency();
            int lack = lack(frequency);
            energy += demand() - lack;
            for (int i = 0; i < diesels.length; i++) {
                diesels[i].tick(power(i, frequency), frequency);
            }
            if (lack > 0) {
                shed();
            }
            ticks++;
            return trip();
        }

        private void shed() {
            for (int i = feeders.length - 1; i >= 0; i--) {
                if (feeders[i].on && feeders[i].load > 0) {
                    feeders[i].on = false;
                    feeders[i].sheds++;
                    return;
                }
            }
        }

        private int trip() {
            int tripped = 0;
            for (int i = 0; i < diesels.length; i++) {
                Diesel diesel = diesels[i];
                if (diesel.overloaded >= settings[OVERLOAD_TICKS]
                        || diesel.driven >= settings[DRIVEN_TICKS]) {
                    diesel.openBreaker();
                    diesel.trips++;
                    tripped++;
                }
            }
            return tripped;
        }

        int running() {
            int sum = 0;
            for (int i = 0; i < diesels.length; i++) {
                sum += oneIf(diesels[i].runs);
            }
            return sum;
        }

        int closedBreakers() {
            int sum = 0;
            for (int i = 0; i < diesels.length; i++) {
                sum += oneIf(diesels[i].closed);
            }
            return sum;
        }

        int ratingsClosed() {
            int sum = 0;
            for (int i = 0; i < diesels.length; i++) {
                if (diesels[i].closed) {
                    sum += diesels[i].rating;
                }
            }
            return sum;
        }

        int trips() {
            int sum = 0;
            for (int i = 0; i < diesels.length; i++) {
                sum += diesels[i].trips;
            }
            return sum;
        }

        int sheds() {
            int sum = 0;
            for (int i = 0; i < feeders.length; i++) {
                sum += feeders[i].sheds;
            }
            return sum;
        }
    }

    /** The saved states, the oldest one first. */
    private static final class History {
        private final Board[] states = new Board[MOST_SAVED];
        int size;

        History() {
            for (int i = 0; i < states.length; i++) {
                states[i] = new Board();
            }
        }

        void save(Board board) {
            if (size >= states.length) {
                dropOldest();
            }
            states[size].copyFrom(board);
            size++;
        }

        private void dropOldest() {
            Board oldest = states[0];
            for (int i = 1; i < states.length; i++) {
                states[i - 1] = states[i];
            }
            states[states.length - 1] = oldest;
            size = states.length - 1;
        }

        void restore(Board board) {
            if (size > 0) {
                size--;
                board.copyFrom(states[size]);
            }
        }
    }

    /** The buffer, and how orders are written in it. */
    private static final class OrderText {
        // The places of a text: what may come next.
        private static final int WRONG = 0;
        private static final int LETTER = 1;
        private static final int SET = 2;
        private static final int SPEED_SET = 3;
        private static final int EQUALS = 4;
        private static final int SPEED = 5;
        private static final int AFTER_4 = 6;
        private static final int AFTER_5 = 7;
        private static final int AFTER_53 = 8;
        private static final int AFTER_530 = 9;
        private static final int LAST_TWO = 10;
        private static final int LAST_ONE = 11;
        private static final int FEEDER = 12;
        private static final int SIGN = 13;
        private static final int TICKS = 14;
        private static final int MORE_TICKS = 15;
        private static final int END = 16;

        private final int[] codes = new int[BUFFER_SIZE];
        int length;

        boolean isFull() {
            return length >= codes.length;
        }

        void add(int code) {
            if (!isFull()) {
                codes[length] = code;
                length++;
            }
        }

        /** The character at a place, 0 outside of the text. */
        int codeAt(int place) {
            return place >= 0 && place < length ? codes[place] : 0;
        }

        int firstWrong() {
            int place = LETTER;
            for (int i = 0; i < length; i++) {
                place = next(place, codes[i]);
                if (place == WRONG) {
                    return i;
                }
            }
            return length;
        }

        boolean isComplete() {
            int place = LETTER;
            for (int i = 0; i < length; i++) {
                place = next(place, codes[i]);
            }
            return place == END || place == MORE_TICKS;
        }

        int endOfPart(int start) {
            for (int i = start; i < length; i++) {
                if (codeAt(i) == ';') {
                    return i;
                }
            }
            return length;
        }

        /** The number whose digits stand from a place up to, but not at, another. */
        int number(int from, int to) {
            int number = 0;
            for (int i = from; i < to; i++) {
                number = 10 * number + codeAt(i) - '0';
            }
            return number;
        }

        private static int next(int place, int code) {
            switch (place) {
                case LETTER: return afterLetter(code);
                case SET: return between(code, '0', '2', END);
                case SPEED_SET: return between(code, '0', '2', EQUALS);
                case EQUALS: return between(code, '=', '=', SPEED);
                case SPEED: return code == '5' ? AFTER_5 : between(code, '4', '4', AFTER_4);
                case AFTER_4: return between(code, '7', '9', LAST_TWO);
                case AFTER_5: return code == '3' ? AFTER_53 : between(code, '0', '2', LAST_TWO);
                case AFTER_53: return between(code, '0', '0', AFTER_530);
                case AFTER_530: return between(code, '0', '0', END);
                case LAST_TWO: return between(code, '0', '9', LAST_ONE);
                case LAST_ONE: return between(code, '0', '9', END);
                case FEEDER: return between(code, '0', '3', SIGN);
                case SIGN: return code == '-' ? END : between(code, '+', '+', END);
                case TICKS: return between(code, '1', '9', MORE_TICKS);
                case MORE_TICKS: return code == ';' ? LETTER : between(code, '0', '9', END);
                case END: return between(code, ';', ';', LETTER);
                default: return WRONG;
            }
        }

        private static int afterLetter(int code) {
            switch (code) {
                case 's': return SPEED_SET;
                case 'r':
                case 'h':
                case 'c':
                case 'o': return SET;
                case 'f': return FEEDER;
                case 't': return TICKS;
                default: return WRONG;
            }
        }

        private static int between(int code, int least, int most, int then) {
            return code >= least && code <= most ? then : WRONG;
        }
    }
}
