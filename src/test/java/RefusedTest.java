import java.util.function.Consumer;

/**
 * "A call that throws an exception changes nothing. If several exceptions apply, the one that is
 * named first in the throws clause is thrown." Each refused call of promises 2 to 25, with the
 * first number that is refused on each side, and the pairs of reasons in their order.
 */
public final class RefusedTest {
    private static final Class<?> INDEX = IndexOutOfBoundsException.class;
    private static final Class<?> ARGUMENT = IllegalArgumentException.class;
    private static final Class<?> STATE = IllegalStateException.class;

    private static final int LEAST = Integer.MIN_VALUE;
    private static final int MOST = Integer.MAX_VALUE;
    private static final int[] NO_SET = {-1, 3, LEAST, MOST};
    private static final int[] NO_FEEDER = {-1, 4, LEAST, MOST};
    private static final int[] NO_SPEED = {4699, 5301, 0, -5000, LEAST, MOST};

    public static void main(String[] args) throws IllegalAccessException {
        Check.runAll(RefusedTest.class);
    }

    /** A board that lives, with a snapshot, a text and six saved states. */
    private static void full(DroopBoard x) {
        Check.closeAll(x, 0, 2);
        x.run(1);
        x.speed(1, 5009);
        x.pass(7);
        x.keep();
        for (int load = 1; load <= 6; load++) {
            x.load(load % 4, 10 * load);
            x.pass(1);
        }
        Check.type(x, "t5;x");
    }

    private static void nothing(DroopBoard x) {
    }

    /** A refusal that does not look at the state: of a new object and of a full one. */
    private static void refused(Class<?> want, String call, Consumer<DroopBoard> run) {
        Check.dueRefused(want, RefusedTest::nothing, call + " of a new object", run);
        Check.dueRefused(want, RefusedTest::full, call, run);
    }

    /** A refusal by the state that some calls bring about, behind six saved states. */
    private static void refusedBehind(Consumer<DroopBoard> before, String call, Consumer<DroopBoard> run) {
        Check.dueRefused(STATE, before, call, run);
        Check.dueRefused(STATE, x -> {
            before.accept(x);
            x.keep();
            for (int load = 1; load <= 6; load++) {
                x.load(3, load);
            }
            x.load(3, 0);
        }, call + " with six saved states", run);
    }

    private static void runningClosed(DroopBoard x) {
        Check.closeAll(x, 0);
    }

    private static void runningOpen(DroopBoard x) {
        Check.closeAll(x, 0);
        x.run(1);
    }

    // ---- promise 2

    static void promise2NoSuchSet() {
        for (int set : NO_SET) {
            refused(INDEX, "build(" + set + ", 200, 200)", x -> x.build(set, 200, 200));
        }
    }

    static void promise2RatingOutOfRange() {
        for (int rating : new int[] {99, 501, 0, -200, LEAST, MOST}) {
            Check.dueRefused(ARGUMENT, RefusedTest::nothing, "build(1, " + rating + ", 200)",
                x -> x.build(1, rating, 200));
        }
    }

    static void promise2DroopOutOfRange() {
        for (int droop : new int[] {99, 401, 0, -200, LEAST, MOST}) {
            Check.dueRefused(ARGUMENT, RefusedTest::nothing, "build(1, 200, " + droop + ")",
                x -> x.build(1, 200, droop));
        }
    }

    static void promise2ItRuns() {
        refusedBehind(RefusedTest::runningOpen, "build(1, 200, 200)", x -> x.build(1, 200, 200));
        refusedBehind(RefusedTest::runningClosed, "build(0, 200, 200)", x -> x.build(0, 200, 200));
    }

    static void promise2TheIndexGoesFirst() {
        refused(INDEX, "build(-1, 99, 200)", x -> x.build(-1, 99, 200));
        refused(INDEX, "build(3, 200, 401)", x -> x.build(3, 200, 401));
    }

    static void promise2TheArgumentGoesBeforeTheState() {
        refused(ARGUMENT, "build(0, 99, 200)", x -> x.build(0, 99, 200));
        refused(ARGUMENT, "build(0, 501, 200)", x -> x.build(0, 501, 200));
        refused(ARGUMENT, "build(0, 200, 99)", x -> x.build(0, 200, 99));
        refused(ARGUMENT, "build(0, 200, 401)", x -> x.build(0, 200, 401));
    }

    // ---- promise 3

    static void promise3NoSuchSet() {
        for (int set : NO_SET) {
            refused(INDEX, "speed(" + set + ", 5000)", x -> x.speed(set, 5000));
        }
    }

    static void promise3SpeedOutOfRange() {
        for (int speed : NO_SPEED) {
            refused(ARGUMENT, "speed(0, " + speed + ")", x -> x.speed(0, speed));
        }
    }

    static void promise3TheIndexGoesFirst() {
        refused(INDEX, "speed(3, 4699)", x -> x.speed(3, 4699));
        refused(INDEX, "speed(-1, 5301)", x -> x.speed(-1, 5301));
    }

    // ---- promises 4 to 7

    static void promise4NoSuchSet() {
        for (int set : NO_SET) {
            refused(INDEX, "run(" + set + ")", x -> x.run(set));
        }
    }

    static void promise4ItRunsAlready() {
        refusedBehind(RefusedTest::runningOpen, "run(1)", x -> x.run(1));
        refusedBehind(RefusedTest::runningClosed, "run(0)", x -> x.run(0));
    }

    static void promise5NoSuchSet() {
        for (int set : NO_SET) {
            refused(INDEX, "halt(" + set + ")", x -> x.halt(set));
        }
    }

    static void promise5ItDoesNotRun() {
        refusedBehind(RefusedTest::nothing, "halt(0)", x -> x.halt(0));
        refusedBehind(RefusedTest::runningOpen, "halt(2)", x -> x.halt(2));
    }

    static void promise5ItsBreakerIsClosed() {
        refusedBehind(RefusedTest::runningClosed, "halt(0)", x -> x.halt(0));
    }

    static void promise6NoSuchSet() {
        for (int set : NO_SET) {
            refused(INDEX, "close(" + set + ")", x -> x.close(set));
        }
    }

    static void promise6ItDoesNotRun() {
        refusedBehind(RefusedTest::nothing, "close(0)", x -> x.close(0));
        refusedBehind(RefusedTest::runningClosed, "close(1)", x -> x.close(1));
    }

    static void promise6ItIsClosed() {
        refusedBehind(RefusedTest::runningClosed, "close(0)", x -> x.close(0));
    }

    static void promise6TheSlipIsTooWide() {
        for (int speed : new int[] {4989, 5011, 4700, 5300}) {
            refusedBehind(x -> {
                runningOpen(x);
                x.speed(1, speed);
            }, "close(1) with the speed " + speed, x -> x.close(1));
        }
    }

    static void promise6TheLampsAreTooBright() {
        for (int phase : new int[] {31, 500, 969}) {
            refusedBehind(x -> {
                runningOpen(x);
                Check.reachPhase(x, 1, phase);
            }, "close(1) with the phase " + phase, x -> x.close(1));
        }
    }

    static void promise7NoSuchSet() {
        for (int set : NO_SET) {
            refused(INDEX, "open(" + set + ")", x -> x.open(set));
        }
    }

    static void promise7ItIsOpen() {
        refusedBehind(RefusedTest::nothing, "open(0)", x -> x.open(0));
        refusedBehind(RefusedTest::runningOpen, "open(1)", x -> x.open(1));
        refusedBehind(RefusedTest::runningOpen, "open(2)", x -> x.open(2));
    }

    // ---- promises 8 to 11

    static void promise8NoSuchFeeder() {
        for (int feeder : NO_FEEDER) {
            refused(INDEX, "load(" + feeder + ", 10)", x -> x.load(feeder, 10));
        }
    }

    static void promise8LoadOutOfRange() {
        for (int load : new int[] {-1, 301, LEAST, MOST}) {
            refused(ARGUMENT, "load(1, " + load + ")", x -> x.load(1, load));
        }
    }

    static void promise8TheIndexGoesFirst() {
        refused(INDEX, "load(4, 301)", x -> x.load(4, 301));
        refused(INDEX, "load(-1, -1)", x -> x.load(-1, -1));
    }

    static void promise9NoSuchFeeder() {
        for (int feeder : NO_FEEDER) {
            refused(INDEX, "feeder(" + feeder + ", 0)", x -> x.feeder(feeder, 0));
        }
    }

    static void promise9OnIsNot0Or1() {
        for (int on : new int[] {-1, 2, LEAST, MOST}) {
            refused(ARGUMENT, "feeder(1, " + on + ")", x -> x.feeder(1, on));
        }
    }

    static void promise9TheIndexGoesFirst() {
        refused(INDEX, "feeder(4, 2)", x -> x.feeder(4, 2));
        refused(INDEX, "feeder(-1, -1)", x -> x.feeder(-1, -1));
    }

    static void promise10TicksOutOfRange() {
        for (int ticks : new int[] {0, 100, -1, LEAST, MOST}) {
            refused(ARGUMENT, "pass(" + ticks + ")", x -> x.pass(ticks));
        }
    }

    static void promise11NoSuchSetting() {
        for (int setting : NO_FEEDER) {
            refused(INDEX, "set(" + setting + ", 5)", x -> x.set(setting, 5));
        }
    }

    static void promise11ValueOutOfRange() {
        int[] below = {0, 0, -1, -1};
        int[] above = {10, 10, 51, 201};
        for (int i = 0; i < 4; i++) {
            int setting = i;
            for (int value : new int[] {below[i], above[i], LEAST, MOST}) {
                refused(ARGUMENT, "set(" + i + ", " + value + ")", x -> x.set(setting, value));
            }
        }
    }

    static void promise11TheIndexGoesFirst() {
        refused(INDEX, "set(4, 201)", x -> x.set(4, 201));
        refused(INDEX, "set(-1, -1)", x -> x.set(-1, -1));
    }

    // ---- promises 12 to 18

    static void promise12CodeOutOfRange() {
        for (int code : new int[] {32, 127, 0, -1, 256 + 's', LEAST, MOST}) {
            refused(ARGUMENT, "append(" + code + ")", x -> x.append(code));
        }
    }

    static void promise12TheBufferHas60() {
        refusedBehind(x -> Check.type(x, "r0;".repeat(20)), "append('r')", x -> x.append('r'));
        refusedBehind(x -> Check.type(x, "!".repeat(60)), "append(126)", x -> x.append(126));
    }

    static void promise12TheArgumentGoesFirst() {
        for (int code : new int[] {32, 127}) {
            Check.dueRefused(ARGUMENT, x -> Check.type(x, "t9;".repeat(20)), "append(" + code + ")",
                x -> x.append(code));
        }
    }

    static void promise15NotCompleteOrders() {
        String[] texts = {"", ";", "r", "r0;", "r0;;r1", ";r0", "r0;x", "r0r1", "r3", "s", "s0", "s0=", "s0=5",
            "s0=530", "s0=4699", "s0=5301", "s0=50000", "h", "c3", "o", "f0", "f4+", "f0+-", "t", "t0", "t01",
            "t100", "t1;t", "R0", "r0,r1"};
        for (String text : texts) {
            Check.dueRefused(ARGUMENT, x -> {
                full(x);
                Check.type(x, text);
            }, "obey() of " + text, x -> x.obey());
        }
    }

    static void promise17NoSnapshot() {
        Check.dueRefused(STATE, RefusedTest::nothing, "goBack()", x -> x.goBack());
        Check.dueRefused(STATE, x -> {
            for (int load = 1; load <= 7; load++) {
                x.load(0, load);
            }
        }, "goBack() with six saved states", x -> x.goBack());
    }

    static void promise18NoSavedState() {
        Check.dueRefused(STATE, RefusedTest::nothing, "undo()", x -> x.undo());
        Check.dueRefused(STATE, x -> {
            Check.type(x, "t5");
            x.keep();
            x.run(0);
            x.undo();
        }, "undo() when all are undone", x -> x.undo());
    }

    // ---- promises 19 to 25

    static void promise19NoSuchSet() {
        for (int set : NO_SET) {
            refused(INDEX, "diesel(" + set + ", 0)", x -> x.diesel(set, 0));
        }
        refused(INDEX, "diesel(3, 13)", x -> x.diesel(3, 13));
        refused(INDEX, "diesel(-1, -1)", x -> x.diesel(-1, -1));
    }

    static void promise19WhatIsNot0To12() {
        for (int what : new int[] {-1, 13, LEAST, MOST}) {
            refused(ARGUMENT, "diesel(0, " + what + ")", x -> x.diesel(0, what));
        }
    }

    static void promise20NoSuchFeeder() {
        for (int feeder : NO_FEEDER) {
            refused(INDEX, "line(" + feeder + ", 0)", x -> x.line(feeder, 0));
        }
        refused(INDEX, "line(4, 3)", x -> x.line(4, 3));
        refused(INDEX, "line(-1, -1)", x -> x.line(-1, -1));
    }

    static void promise20WhatIsNot0To2() {
        for (int what : new int[] {-1, 3, LEAST, MOST}) {
            refused(ARGUMENT, "line(0, " + what + ")", x -> x.line(0, what));
        }
    }

    static void promise21WhatIsNot0To11() {
        for (int what : new int[] {-1, 12, LEAST, MOST}) {
            refused(ARGUMENT, "count(" + what + ")", x -> x.count(what));
        }
    }

    static void promise22NoSuchSetting() {
        for (int setting : NO_FEEDER) {
            refused(INDEX, "setting(" + setting + ")", x -> x.setting(setting));
        }
    }

    static void promise23NoSuchSet() {
        for (int set : NO_SET) {
            refused(INDEX, "ifSpeed(" + set + ", 5000, 0)", x -> x.ifSpeed(set, 5000, 0));
        }
        refused(INDEX, "ifSpeed(3, 4699, 0)", x -> x.ifSpeed(3, 4699, 0));
        refused(INDEX, "ifSpeed(-1, 5000, 3)", x -> x.ifSpeed(-1, 5000, 3));
    }

    static void promise23SpeedOutOfRange() {
        for (int speed : NO_SPEED) {
            refused(ARGUMENT, "ifSpeed(0, " + speed + ", 0)", x -> x.ifSpeed(0, speed, 0));
        }
    }

    static void promise23WhatIsNot0To2() {
        for (int what : new int[] {-1, 3, LEAST, MOST}) {
            refused(ARGUMENT, "ifSpeed(0, 5000, " + what + ")", x -> x.ifSpeed(0, 5000, what));
        }
    }

    static void promise24NoSuchSet() {
        for (int set : NO_SET) {
            refused(INDEX, "closeIn(" + set + ")", x -> x.closeIn(set));
        }
    }

    static void promise25NoSuchSet() {
        for (int set : NO_SET) {
            refused(INDEX, "fairSpeed(" + set + ")", x -> x.fairSpeed(set));
        }
    }
}
