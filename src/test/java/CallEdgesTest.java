import java.util.function.Consumer;

/**
 * The boundary cases of promises 1 to 18, of "Input text" and of "Undo", sentence by sentence; the
 * calls that are refused stand in RefusedTest.
 */
public final class CallEdgesTest {
    public static void main(String[] args) throws IllegalAccessException {
        Check.runAll(CallEdgesTest.class);
    }

    // ---- promise 1

    static void promise1NothingRunsAndNothingIsLoaded() {
        DroopBoard x = new DroopBoard();
        for (int what = 0; what <= 11; what++) {
            Check.due("count(" + what + ")", x.count(what), 0);
        }
    }

    static void promise1TheBufferIsEmpty() {
        DroopBoard x = new DroopBoard();
        Check.due("firstError()", x.firstError(), 0);
        Check.due("clearBuffer()", x.clearBuffer(), 0);
        Check.due("append('x')", x.append('x'), 1);
    }

    static void promise1ThereIsNoSnapshot() {
        DroopBoard x = new DroopBoard();
        Check.dueNoState(x, "goBack()", () -> x.goBack());
        x.keep();
        Check.due("goBack()", x.goBack(), 0);
    }

    static void promise1ThereIsNoSavedState() {
        DroopBoard x = new DroopBoard();
        Check.due("count(11)", x.count(11), 0);
        Check.dueNoState(x, "undo()", () -> x.undo());
    }

    static void promise1ObjectsShareNothing() {
        DroopBoard x = new DroopBoard();
        DroopBoard y = new DroopBoard();
        long before = y.digest();
        Check.closeAll(x, 0);
        x.load(0, 9);
        x.keep();
        x.append('x');
        x.pass(9);
        Check.due("digest() of the other one", y.digest(), before);
        Check.dueNoState(y, "goBack() of the other one", () -> y.goBack());
    }

    /** The calls of two objects by turns: each has its own buffer, snapshot and saved states. */
    static void promise1ObjectsShareNothingByTurns() {
        DroopBoard x = new DroopBoard();
        DroopBoard y = new DroopBoard();
        x.load(0, 10);
        y.load(0, 20);
        x.keep();
        y.load(0, 30);
        y.keep();
        Check.type(x, "r1;c1");
        Check.type(y, "s2=5300");
        Check.due("obey() of the one", x.obey(), 2);
        Check.due("firstError() of the other", y.firstError(), 7);
        Check.due("obey() of the other", y.obey(), 1);
        Check.due("closed, of the one", x.diesel(1, 4), 1);
        Check.due("closed, of the other", y.diesel(1, 4), 0);
        Check.due("the speed of the one", x.diesel(2, 2), 5000);
        Check.due("the speed of the other", y.diesel(2, 2), 5300);
        Check.due("saved states of the one", x.count(11), 2);
        Check.due("saved states of the other", y.count(11), 3);
        x.load(0, 99);
        x.goBack();
        y.goBack();
        Check.due("the load of the one in its snapshot", x.line(0, 0), 10);
        Check.due("the load of the other in its snapshot", y.line(0, 0), 30);
        Check.due("undo() of the one", x.undo(), 3);
        Check.due("its load", x.line(0, 0), 99);
        Check.due("undo() of the other", y.undo(), 3);
        Check.due("its speed", y.diesel(2, 2), 5300);
    }

    // ---- promise 2

    static void promise2RatingsFrom100To500() {
        DroopBoard x = new DroopBoard();
        Check.due("build(2, 100, 200)", x.build(2, 100, 200), 400);
        Check.due("diesel(2, 0)", x.diesel(2, 0), 100);
        Check.due("build(2, 500, 200)", x.build(2, 500, 200), 100);
        Check.due("diesel(2, 0)", x.diesel(2, 0), 500);
        Check.due("build(2, 499, 200)", x.build(2, 499, 200), 500);
    }

    static void promise2DroopsFrom100To400() {
        DroopBoard x = new DroopBoard();
        x.build(0, 200, 100);
        Check.due("diesel(0, 1)", x.diesel(0, 1), 100);
        x.build(0, 200, 400);
        Check.due("diesel(0, 1)", x.diesel(0, 1), 400);
        Check.due("diesel(0, 0)", x.diesel(0, 0), 200);
    }

    static void promise2ChangesOneSetAlone() {
        for (int set = 0; set < 3; set++) {
            DroopBoard x = new DroopBoard();
            x.speed(set, 4990);
            x.build(set, 123, 321);
            for (int other = 0; other < 3; other++) {
                Check.due("the rating", x.diesel(other, 0), other == set ? 123 : 200 + 100 * other);
                Check.due("the droop", x.diesel(other, 1), other == set ? 321 : 200);
                Check.due("the speed", x.diesel(other, 2), other == set ? 4990 : 5000);
            }
        }
    }

    static void promise2AgainWhenItHasStopped() {
        DroopBoard x = new DroopBoard();
        Check.closeAll(x, 0);
        Check.dueNoState(x, "build(0, 100, 100), closed", () -> x.build(0, 100, 100));
        x.open(0);
        Check.dueNoState(x, "build(0, 100, 100), open", () -> x.build(0, 100, 100));
        x.halt(0);
        Check.due("build(0, 100, 100)", x.build(0, 100, 100), 200);
    }

    // ---- promise 3

    static void promise3SpeedsFrom4700To5300() {
        for (int set = 0; set < 3; set++) {
            DroopBoard x = new DroopBoard();
            Check.due("speed to 4700", x.speed(set, 4700), 5000);
            Check.due("diesel(" + set + ", 2)", x.diesel(set, 2), 4700);
            Check.due("speed to 5300", x.speed(set, 5300), 4700);
            Check.due("diesel(" + set + ", 2)", x.diesel(set, 2), 5300);
            Check.due("another set", x.diesel((set + 1) % 3, 2), 5000);
        }
    }

    static void promise3InEachStateOfASet() {
        DroopBoard x = new DroopBoard();
        Check.due("speed of a set that stands", x.speed(0, 5010), 5000);
        x.run(0);
        Check.due("speed of a set that runs", x.speed(0, 5020), 5010);
        Check.due("close(0)", x.close(0), 5020);
        Check.due("speed of a closed set", x.speed(0, 5030), 5020);
        Check.due("count(1)", x.count(1), 5030);
    }

    static void promise3ThePhaseAndTheCountsStay() {
        DroopBoard x = new DroopBoard();
        Check.closeAll(x, 0);
        x.load(0, 221);
        x.run(1);
        x.speed(1, 4800);
        x.pass(2);
        x.speed(0, 5001);
        x.speed(1, 4801);
        Check.due("diesel(0, 8)", x.diesel(0, 8), 2);
        Check.due("diesel(1, 6)", x.diesel(1, 6), 42);
    }

    // ---- promises 4 and 5

    static void promise4TellsHowManyRun() {
        DroopBoard x = new DroopBoard();
        Check.due("run(2)", x.run(2), 1);
        Check.due("run(0)", x.run(0), 2);
        Check.due("run(1)", x.run(1), 3);
    }

    static void promise5TellsHowManyRun() {
        DroopBoard x = new DroopBoard();
        x.run(0);
        x.run(1);
        x.run(2);
        Check.due("halt(1)", x.halt(1), 2);
        Check.due("halt(2)", x.halt(2), 1);
        Check.due("halt(0)", x.halt(0), 0);
        Check.due("run(0)", x.run(0), 1);
    }

    static void promise5ASetWhoseBreakerHasOpened() {
        DroopBoard x = new DroopBoard();
        Check.closeAll(x, 0, 1);
        x.open(0);
        Check.due("halt(0)", x.halt(0), 1);
        Check.dueNoState(x, "halt(1), closed", () -> x.halt(1));
    }

    static void promise5ASetWhoseBreakerHasTripped() {
        DroopBoard x = new DroopBoard();
        Check.closeAll(x, 0);
        x.load(0, 300);
        x.pass(3);
        Check.due("halt(0)", x.halt(0), 0);
    }

    // ---- promises 6 and 7

    static void promise6TheFirstBreakerClosesWhateverTheSpeed() {
        for (int speed : new int[] {4700, 5000, 5300}) {
            DroopBoard x = new DroopBoard();
            x.speed(1, speed);
            x.run(1);
            Check.due("close(1)", x.close(1), speed);
        }
    }

    static void promise6TellsTheFrequencyThen() {
        DroopBoard x = new DroopBoard();
        x.load(0, 300);
        x.load(1, 1);
        x.run(0);
        Check.due("close(0) of a board that lacks", x.close(0), 4700);
        x.load(0, 0);
        x.load(1, 236);
        Check.due("count(1)", x.count(1), 4764);
        x.run(1);
        x.speed(1, 4714);
        x.set(2, 50);
        // at 4734: 266 and -30
        Check.due("close(1) with the slip -50", x.close(1), 4734);
    }

    static void promise7TellsTheFrequencyThen() {
        DroopBoard x = new DroopBoard();
        Check.closeAll(x, 0, 1, 2);
        x.load(0, 225);
        Check.due("count(1)", x.count(1), 4950);
        Check.due("open(2)", x.open(2), 4910);
        Check.due("open(1)", x.open(1), 4775);
        Check.due("open(0)", x.open(0), 0);
    }

    // ---- promises 8 and 9

    static void promise8LoadsFrom0To300() {
        for (int feeder = 0; feeder < 4; feeder++) {
            DroopBoard x = new DroopBoard();
            Check.due("load to 300", x.load(feeder, 300), 0);
            Check.due("line(" + feeder + ", 0)", x.line(feeder, 0), 300);
            Check.due("load to 0", x.load(feeder, 0), 300);
            Check.due("line(" + feeder + ", 0)", x.line(feeder, 0), 0);
            Check.due("load to 1", x.load(feeder, 1), 0);
            Check.due("another feeder", x.line((feeder + 1) % 4, 0), 0);
        }
    }

    static void promise8AFeederThatIsOff() {
        DroopBoard x = new DroopBoard();
        Check.closeAll(x, 0);
        x.feeder(2, 0);
        Check.due("load(2, 50)", x.load(2, 50), 0);
        Check.due("line(2, 1)", x.line(2, 1), 0);
        Check.due("count(3)", x.count(3), 0);
        x.feeder(2, 1);
        Check.due("count(3)", x.count(3), 50);
    }

    static void promise9Returns1IfItWasOn() {
        for (int feeder = 0; feeder < 4; feeder++) {
            DroopBoard x = new DroopBoard();
            Check.due("on to on", x.feeder(feeder, 1), 1);
            Check.due("on to off", x.feeder(feeder, 0), 1);
            Check.due("another feeder", x.line((feeder + 1) % 4, 1), 1);
            Check.due("off to off", x.feeder(feeder, 0), 0);
            Check.due("off to on", x.feeder(feeder, 1), 0);
            Check.due("line(" + feeder + ", 1)", x.line(feeder, 1), 1);
        }
    }

    static void promise9AFeederThatWasShed() {
        DroopBoard x = new DroopBoard();
        Check.closeAll(x, 0);
        x.load(0, 300);
        x.load(3, 1);
        x.pass(1);
        Check.due("feeder(3, 1)", x.feeder(3, 1), 0);
        Check.due("line(3, 2)", x.line(3, 2), 1);
        Check.due("feeder(3, 0)", x.feeder(3, 0), 1);
        Check.due("line(3, 2), not shed again", x.line(3, 2), 1);
    }

    // ---- promise 10

    static void promise10From1To99Ticks() {
        DroopBoard x = new DroopBoard();
        x.pass(1);
        Check.due("count(0)", x.count(0), 1);
        x.pass(99);
        Check.due("count(0)", x.count(0), 100);
        x.pass(98);
        Check.due("count(0)", x.count(0), 198);
    }

    static void promise10IsAsManyCallsOfOneTick() {
        DroopBoard x = new DroopBoard();
        DroopBoard y = new DroopBoard();
        for (DroopBoard each : new DroopBoard[] {x, y}) {
            Check.closeAll(each, 0, 1);
            each.run(2);
            each.speed(2, 5123);
            each.load(0, 300);
            each.load(1, 300);
            each.load(2, 300);
        }
        int tripped = 0;
        for (int i = 0; i < 20; i++) {
            tripped += y.pass(1);
        }
        Check.due("pass(20)", x.pass(20), tripped);
        Check.due("some trip", tripped > 0 ? 1 : 0, 1);
        for (int what = 0; what <= 10; what++) {
            Check.due("count(" + what + ")", x.count(what), y.count(what));
        }
        for (int what = 0; what <= 12; what++) {
            Check.due("diesel(2, " + what + ")", x.diesel(2, what), y.diesel(2, what));
        }
    }

    static void promise10CountsTripsOfAllItsTicks() {
        DroopBoard x = new DroopBoard();
        x.set(0, 1);
        Check.closeAll(x, 0, 1);
        x.speed(0, 5080);
        x.load(0, 300);
        Check.due("the power of set 0", x.diesel(0, 5), 168);
        Check.due("pass(1)", x.pass(1), 0);
        x.speed(0, 5300);
        x.load(1, 50);
        Check.due("the power of a faster set 0", x.diesel(0, 5), 320);
        Check.due("pass(1) trips the one", x.pass(1), 1);
        Check.due("the power of set 1", x.diesel(1, 5), 350);
        Check.due("pass(1) trips the other", x.pass(1), 1);
        x.undo();
        x.undo();
        Check.due("pass(2) tells both", x.pass(2), 2);
        x.undo();
        Check.due("pass(99) tells both", x.pass(99), 2);
        Check.due("count(8)", x.count(8), 2);
    }

    static void promise10IsUndoneAsOneCall() {
        DroopBoard x = new DroopBoard();
        Check.closeAll(x, 0);
        x.pass(99);
        Check.due("count(11)", x.count(11), 3);
        Check.due("undo()", x.undo(), 2);
        Check.due("count(0)", x.count(0), 0);
    }

    // ---- promises 12 and 13

    static void promise12CodesFrom33To126() {
        DroopBoard x = new DroopBoard();
        for (int code = 33; code <= 126; code++) {
            if (x.append(code) == 60) {
                x.clearBuffer();
            }
        }
        Check.due("clearBuffer()", x.clearBuffer(), 94 - 60);
    }

    static void promise12AsManyAs60() {
        DroopBoard x = new DroopBoard();
        for (int length = 1; length <= 60; length++) {
            Check.due("append(';')", x.append(';'), length);
        }
        Check.dueNoState(x, "append(';') to 60", () -> x.append(';'));
        Check.due("clearBuffer()", x.clearBuffer(), 60);
        Check.due("append(';') behind it", x.append(';'), 1);
    }

    static void promise12To14AreNotUndoable() {
        DroopBoard x = new DroopBoard();
        x.run(0);
        x.append('x');
        x.firstError();
        x.clearBuffer();
        x.append('y');
        Check.due("count(11)", x.count(11), 1);
        Check.due("undo()", x.undo(), 0);
        Check.due("the buffer stays", x.clearBuffer(), 1);
    }

    static void promise13OfAnEmptyBuffer() {
        DroopBoard x = new DroopBoard();
        Check.due("clearBuffer()", x.clearBuffer(), 0);
        x.append('x');
        Check.due("clearBuffer()", x.clearBuffer(), 1);
        Check.due("clearBuffer()", x.clearBuffer(), 0);
    }

    // ---- promise 14

    private static void dueError(String text, int due) {
        DroopBoard x = new DroopBoard();
        Check.type(x, text);
        Check.due("firstError() of " + text, x.firstError(), due);
    }

    private static void dueRight(String... texts) {
        for (String text : texts) {
            dueError(text, text.length());
        }
    }

    static void promise14OfAnEmptyBuffer() {
        dueError("", 0);
    }

    static void promise14AnOrderMayBeUnfinished() {
        dueRight("s", "s0", "s0=", "s0=4", "s0=47", "s0=470", "r", "h", "c", "o", "f", "f0", "t", "r0;", "t5;s");
    }

    static void promise14SetsFrom0To2() {
        dueRight("r0", "r2", "h0", "h2", "c0", "c2", "o0", "o2", "s0", "s2");
        for (char letter : "rhcos".toCharArray()) {
            dueError(letter + "3", 1);
            dueError(letter + "/", 1);
            dueError(letter + "-", 1);
        }
    }

    static void promise14FeedersFrom0To3() {
        dueRight("f0+", "f3+", "f0-", "f3-");
        dueError("f4", 1);
        dueError("f/", 1);
        dueError("f3*", 2);
        dueError("f3,", 2);
        dueError("f3.", 2);
    }

    static void promise14SpeedsFrom4700To5300() {
        DroopBoard x = new DroopBoard();
        dueRight("s0=4700", "s1=4799", "s2=4800", "s0=4999", "s0=5000", "s0=5299", "s0=5300");
        dueError("s0=4699", 4);
        dueError("s0=46", 4);
        dueError("s0=5301", 6);
        dueError("s0=531", 5);
        dueError("s0=54", 4);
        dueError("s0=39", 3);
        dueError("s0=60", 3);
        dueError("s0=05000", 3);
        dueError("s0=50000", 7);
        dueError("s0=500;", 6);
        Check.due("firstError()", x.firstError(), 0);
    }

    static void promise14EachNumberOf4DigitsIsASpeedOrNot() {
        DroopBoard x = new DroopBoard();
        int calls = 1;
        for (int speed = 4650; speed <= 5350; speed++) {
            if (calls > 500) {
                x = new DroopBoard();
                calls = 1;
            }
            Check.type(x, "s1=" + speed);
            calls += 9;
            boolean right = x.firstError() == 7;
            Check.due("s1=" + speed, right ? 1 : 0, speed >= 4700 && speed <= 5300 ? 1 : 0);
        }
    }

    static void promise14TicksFrom1To99WithoutLeadingZeros() {
        dueRight("t1", "t9", "t10", "t19", "t90", "t99");
        dueError("t0", 1);
        dueError("t00", 1);
        dueError("t01", 1);
        dueError("t100", 3);
        dueError("t999", 3);
        dueError("t-1", 1);
        dueError("t+1", 1);
    }

    static void promise14APartIsDueBehindEachSemicolon() {
        dueRight("r0;", "r0;r0;r0");
        dueError(";", 0);
        dueError("r0;;", 3);
        dueError("r0;0", 3);
        dueError("r0,r0", 2);
        dueError("r0r0", 2);
        dueError("r;", 1);
        dueError("t;", 1);
        dueError("f0;", 2);
        dueError("f0+1", 3);
        dueError("s0;", 2);
    }

    static void promise14OtherLettersAndGreatOnes() {
        for (char code = 33; code <= 126; code++) {
            dueError("" + code, "srhcoft".indexOf(code) >= 0 ? 1 : 0);
        }
    }

    static void promise14TheFirstErrorOfSeveral() {
        dueError("r3;r4;xx", 1);
        dueError("r0;t0;r0", 4);
        dueError("xr0;r0", 0);
        dueError("r0;r1;?r2", 6);
    }

    static void promise14OrdersOfAnyLengthNotOf60() {
        dueRight("r0;".repeat(20), "t99;".repeat(14) + "t9;s", "r0;".repeat(19) + "s0=");
        dueError("r0;".repeat(19) + "r0!", 59);
        dueError("!" + "r0;".repeat(19), 0);
    }

    static void promise14ChangesNothing() {
        DroopBoard x = new DroopBoard();
        Check.type(x, "r0;x");
        long before = x.digest();
        Check.due("firstError()", x.firstError(), 3);
        Check.due("firstError()", x.firstError(), 3);
        Check.due("digest()", x.digest(), before);
    }

    // ---- promise 15

    private static int obeyed(DroopBoard x, String text) {
        Check.type(x, text);
        return x.obey();
    }

    private static void dueAs(String text, int done, Consumer<DroopBoard> before, Consumer<DroopBoard> calls) {
        DroopBoard x = new DroopBoard();
        DroopBoard y = new DroopBoard();
        before.accept(x);
        before.accept(y);
        Check.due("obey() of " + text, obeyed(x, text), done);
        calls.accept(y);
        for (int what = 0; what <= 10; what++) {
            Check.due("count(" + what + ")", x.count(what), y.count(what));
        }
        for (int set = 0; set < 3; set++) {
            for (int what = 0; what <= 12; what++) {
                Check.due("diesel(" + set + ", " + what + ")", x.diesel(set, what), y.diesel(set, what));
            }
        }
        for (int feeder = 0; feeder < 4; feeder++) {
            for (int what = 0; what <= 2; what++) {
                Check.due("line(" + feeder + ", " + what + ")", x.line(feeder, what), y.line(feeder, what));
            }
        }
    }

    private static void nothing(DroopBoard x) {
    }

    /** Set 0 is closed with a load, sets 1 and 2 run, and set 1 has a phase. */
    private static void busy(DroopBoard x) {
        Check.closeAll(x, 0);
        x.run(1);
        x.run(2);
        x.speed(1, 4930);
        x.load(0, 80);
        x.load(3, 10);
        x.pass(2);
    }

    static void promise15SpeedsAsSpeed() {
        dueAs("s0=4700;s1=5300;s2=4999", 3, CallEdgesTest::busy, x -> {
            x.speed(0, 4700);
            x.speed(1, 5300);
            x.speed(2, 4999);
        });
    }

    static void promise15RunsAsRun() {
        dueAs("r2;r0", 2, CallEdgesTest::nothing, x -> {
            x.run(2);
            x.run(0);
        });
    }

    static void promise15StopsAsHalt() {
        dueAs("h1;h2", 2, CallEdgesTest::busy, x -> {
            x.halt(1);
            x.halt(2);
        });
    }

    static void promise15ClosesAsClose() {
        Consumer<DroopBoard> before = x -> {
            busy(x);
            x.set(3, 180);
        };
        dueAs("s2=4910;c2;c0", 2, before, x -> {
            x.speed(2, 4910);
            x.close(2);
        });
    }

    static void promise15OpensAsOpen() {
        dueAs("o0;t3", 2, CallEdgesTest::busy, x -> {
            x.open(0);
            x.pass(3);
        });
    }

    static void promise15SwitchesAsFeeder() {
        dueAs("f0-;f3+;f3-;f2-;f2+;f1-", 6, CallEdgesTest::busy, x -> {
            x.feeder(0, 0);
            x.feeder(3, 0);
            x.feeder(1, 0);
        });
    }

    static void promise15PassesAsPass() {
        dueAs("t1;t99;t10", 3, CallEdgesTest::busy, x -> {
            x.pass(1);
            x.pass(99);
            x.pass(10);
        });
    }

    static void promise15UpToTheFirstThatWouldThrow() {
        String[] texts = {"r0", "h0", "h1;h1", "c0", "c1", "o1", "o0;o0", "h2;c2", "r1"};
        int[] done = {0, 0, 1, 0, 0, 0, 1, 1, 0};
        for (int i = 0; i < texts.length; i++) {
            DroopBoard x = new DroopBoard();
            busy(x);
            Check.due("obey() of " + texts[i], obeyed(x, texts[i] + ";t9;s2=5300;f0-"), done[i]);
            Check.due("count(0), no tick of those behind", x.count(0), 2);
            Check.due("diesel(2, 2), no speed", x.diesel(2, 2), 5000);
            Check.due("line(0, 1), no feeder", x.line(0, 1), 1);
        }
    }

    static void promise15TheLastOneWouldThrow() {
        DroopBoard x = new DroopBoard();
        Check.due("obey()", obeyed(x, "r0;c0;t2;h0"), 3);
        Check.due("count(0)", x.count(0), 2);
        Check.due("count(7)", x.count(7), 1);
    }

    static void promise15WhatNeverThrows() {
        DroopBoard x = new DroopBoard();
        Check.due("obey()", obeyed(x, "s0=5000;s0=5000;f0+;f0+;f0-;f0-;t1;t1"), 8);
    }

    static void promise15OneOrder() {
        DroopBoard x = new DroopBoard();
        Check.due("obey()", obeyed(x, "r2"), 1);
        Check.due("diesel(2, 3)", x.diesel(2, 3), 1);
    }

    static void promise15AsManyAs20Orders() {
        DroopBoard x = new DroopBoard();
        Check.due("obey() of 59 characters", obeyed(x, "t1;".repeat(19) + "t1"), 20);
        Check.due("count(0)", x.count(0), 20);
        Check.due("obey() of 60 characters", obeyed(x, "t1;".repeat(19) + "t12"), 20);
        Check.due("count(0)", x.count(0), 20 + 31);
    }

    static void promise15ClearsTheBuffer() {
        DroopBoard x = new DroopBoard();
        obeyed(x, "r0;t5");
        Check.due("clearBuffer() when all are done", x.clearBuffer(), 0);
        obeyed(x, "t5;r0;t5");
        Check.due("clearBuffer() when some are done", x.clearBuffer(), 0);
        obeyed(x, "r0;t5");
        Check.due("clearBuffer() when none is done", x.clearBuffer(), 0);
    }

    static void promise15IsUndoneAsOneCall() {
        DroopBoard x = new DroopBoard();
        long before = DigestOf.ofState(x);
        obeyed(x, "r0;c0;t50;f2-;s1=5100");
        Check.due("count(11)", x.count(11), 1);
        Check.due("undo()", x.undo(), 0);
        Check.due("the state", DigestOf.ofState(x), before);
        Check.due("clearBuffer()", x.clearBuffer(), 0);
    }

    static void promise15IsSavedAlsoIfNoneIsDone() {
        DroopBoard x = new DroopBoard();
        x.pass(3);
        Check.due("obey()", obeyed(x, "h0;t1"), 0);
        Check.due("count(11)", x.count(11), 2);
        Check.due("undo()", x.undo(), 1);
        Check.due("count(0)", x.count(0), 3);
        Check.due("undo()", x.undo(), 0);
        Check.due("count(0)", x.count(0), 0);
    }

    // ---- promises 16 and 17

    static void promise16TellsTheTicksSoFar() {
        DroopBoard x = new DroopBoard();
        Check.due("keep()", x.keep(), 0);
        x.pass(99);
        Check.due("keep()", x.keep(), 99);
        x.undo();
        Check.due("keep() behind undo()", x.keep(), 0);
    }

    static void promise16InPlaceOfTheOneThatWas() {
        DroopBoard x = new DroopBoard();
        x.load(0, 1);
        x.keep();
        x.load(0, 2);
        x.keep();
        x.load(0, 3);
        x.goBack();
        Check.due("line(0, 0)", x.line(0, 0), 2);
    }

    static void promise16IsNotUndoable() {
        DroopBoard x = new DroopBoard();
        x.load(0, 1);
        x.keep();
        Check.due("count(11)", x.count(11), 1);
        Check.due("undo()", x.undo(), 0);
        Check.due("line(0, 0)", x.line(0, 0), 0);
        x.goBack();
        Check.due("line(0, 0) of the snapshot", x.line(0, 0), 1);
    }

    static void promise16TheSnapshotIsNotChangedByWhatFollows() {
        DroopBoard x = new DroopBoard();
        busy(x);
        long before = DigestOf.ofState(x);
        x.keep();
        x.pass(40);
        x.open(0);
        x.halt(1);
        x.build(1, 100, 100);
        x.set(0, 9);
        x.feeder(0, 0);
        x.load(0, 300);
        x.goBack();
        Check.due("the state", DigestOf.ofState(x), before);
    }

    static void promise17TellsTheTicksOfTheSnapshot() {
        DroopBoard x = new DroopBoard();
        x.pass(7);
        x.keep();
        Check.due("goBack() when nothing has changed", x.goBack(), 7);
        x.pass(9);
        Check.due("goBack()", x.goBack(), 7);
    }

    static void promise17TheSnapshotStays() {
        DroopBoard x = new DroopBoard();
        x.keep();
        for (int load = 1; load <= 3; load++) {
            x.load(0, load);
            x.goBack();
            Check.due("line(0, 0)", x.line(0, 0), 0);
            x.load(0, 9);
        }
    }

    static void promise17IsUndoable() {
        DroopBoard x = new DroopBoard();
        x.keep();
        x.pass(5);
        Check.due("goBack()", x.goBack(), 0);
        Check.due("count(11)", x.count(11), 2);
        Check.due("undo()", x.undo(), 1);
        Check.due("count(0)", x.count(0), 5);
        Check.due("goBack()", x.goBack(), 0);
    }

    static void promise17TheSavedStatesAndTheBufferStay() {
        DroopBoard x = new DroopBoard();
        x.load(0, 1);
        x.load(0, 2);
        x.keep();
        x.load(0, 3);
        x.append('x');
        x.goBack();
        Check.due("count(11)", x.count(11), 4);
        Check.due("clearBuffer()", x.clearBuffer(), 1);
        x.undo();
        Check.due("line(0, 0)", x.line(0, 0), 3);
        x.undo();
        Check.due("line(0, 0)", x.line(0, 0), 2);
        x.undo();
        Check.due("line(0, 0)", x.line(0, 0), 1);
    }

    // ---- promise 18, and "Undo"

    /** Behind as many saved states as there are, the call is undone to the state before it. */
    private static void dueSaved(String call, Consumer<DroopBoard> before, Consumer<DroopBoard> run) {
        DroopBoard x = new DroopBoard();
        before.accept(x);
        int saved = x.count(11);
        long state = DigestOf.ofState(x);
        run.accept(x);
        Check.due("count(11) behind " + call, x.count(11), Math.min(6, saved + 1));
        x.undo();
        Check.due("the state behind undo() of " + call, DigestOf.ofState(x), state);
    }

    static void undoOfEachCallThatIsUndoable() {
        dueSaved("build", CallEdgesTest::nothing, x -> x.build(0, 300, 300));
        dueSaved("speed", CallEdgesTest::nothing, x -> x.speed(1, 5100));
        dueSaved("run", CallEdgesTest::nothing, x -> x.run(1));
        dueSaved("load", CallEdgesTest::nothing, x -> x.load(1, 5));
        dueSaved("feeder", CallEdgesTest::nothing, x -> x.feeder(1, 0));
        dueSaved("pass", CallEdgesTest::nothing, x -> x.pass(1));
        dueSaved("set", CallEdgesTest::nothing, x -> x.set(1, 5));
        dueSaved("halt", CallEdgesTest::busy, x -> x.halt(1));
        dueSaved("close", x -> {
            busy(x);
            x.set(3, 200);
            x.set(2, 50);
        }, x -> x.close(1));
        dueSaved("open", CallEdgesTest::busy, x -> x.open(0));
        dueSaved("obey", CallEdgesTest::busy, x -> obeyed(x, "o0;h0;t5"));
        dueSaved("goBack", x -> {
            x.keep();
            busy(x);
        }, x -> x.goBack());
    }

    static void undoOfEachCallThatChangesNothing() {
        dueSaved("build", CallEdgesTest::nothing, x -> x.build(0, 200, 200));
        dueSaved("speed", CallEdgesTest::busy, x -> x.speed(1, 4930));
        dueSaved("load", CallEdgesTest::busy, x -> x.load(0, 80));
        dueSaved("feeder", CallEdgesTest::busy, x -> x.feeder(0, 1));
        dueSaved("set", CallEdgesTest::busy, x -> x.set(3, 30));
        dueSaved("obey", CallEdgesTest::busy, x -> obeyed(x, "h0"));
        dueSaved("goBack", x -> x.keep(), x -> x.goBack());
    }

    static void undoIsNotForOtherCalls() {
        DroopBoard x = new DroopBoard();
        busy(x);
        x.undo();
        x.undo();
        Check.due("count(11)", x.count(11), 4);
        x.append('t');
        x.clearBuffer();
        x.firstError();
        x.keep();
        x.diesel(0, 5);
        x.line(0, 0);
        x.count(1);
        x.setting(0);
        x.ifSpeed(0, 5100, 0);
        x.closeIn(1);
        x.fairSpeed(0);
        x.nextTrip();
        x.loadShare();
        x.meanPower();
        x.digest();
        Check.due("count(11)", x.count(11), 4);
    }

    static void undoRestoresAllThatIsCounted() {
        DroopBoard x = new DroopBoard();
        x.build(1, 200, 200);
        Check.closeAll(x, 0, 1);
        x.run(2);
        x.speed(2, 5133);
        x.load(0, 300);
        x.load(1, 300);
        x.load(2, 9);
        x.pass(2);
        x.load(3, 1);
        int[] counts = counts(x);
        Check.due("diesel(0, 8)", x.diesel(0, 8), 2);
        Check.due("count(9)", x.count(9), 1);
        Check.due("pass(1)", x.pass(1), 2);
        Check.due("count(9)", x.count(9), 2);
        x.undo();
        int[] due = counts(x);
        for (int i = 0; i < due.length; i++) {
            Check.due("number " + i, due[i], counts[i]);
        }
        Check.due("pass(1) again", x.pass(1), 2);
    }

    private static int[] counts(DroopBoard x) {
        int[] counts = new int[29];
        for (int set = 0; set < 3; set++) {
            int[] what = {3, 4, 6, 8, 9, 10, 11};
            for (int i = 0; i < what.length; i++) {
                counts[7 * set + i] = x.diesel(set, what[i]);
            }
        }
        counts[21] = x.count(0);
        counts[22] = x.count(8);
        counts[23] = x.count(9);
        counts[24] = x.count(10);
        for (int feeder = 0; feeder < 4; feeder++) {
            counts[25 + feeder] = x.line(feeder, 2);
        }
        return counts;
    }

    static void undoLeavesTheBuffer() {
        DroopBoard x = new DroopBoard();
        Check.type(x, "r0");
        x.run(1);
        x.append(';');
        x.undo();
        Check.due("clearBuffer()", x.clearBuffer(), 3);
        x.run(1);
        Check.type(x, "t1");
        x.obey();
        x.undo();
        Check.due("clearBuffer() behind obey()", x.clearBuffer(), 0);
    }

    static void undoLeavesTheSnapshot() {
        DroopBoard x = new DroopBoard();
        x.load(0, 5);
        x.keep();
        x.undo();
        Check.due("goBack()", x.goBack(), 0);
        Check.due("line(0, 0)", x.line(0, 0), 5);
    }

    static void undoOfAtMost6() {
        for (int calls = 5; calls <= 8; calls++) {
            DroopBoard x = new DroopBoard();
            for (int load = 1; load <= calls; load++) {
                x.load(0, load);
            }
            int saved = Math.min(calls, 6);
            Check.due("count(11)", x.count(11), saved);
            for (int left = saved - 1; left >= 0; left--) {
                Check.due("undo()", x.undo(), left);
                Check.due("line(0, 0)", x.line(0, 0), calls - saved + left);
            }
            Check.dueNoState(x, "undo() of none", () -> x.undo());
        }
    }

    static void undoBetweenCallsDropsTheLatest() {
        DroopBoard x = new DroopBoard();
        for (int load = 1; load <= 6; load++) {
            x.load(0, load);
        }
        x.undo();
        x.undo();
        x.load(0, 50);
        x.load(0, 60);
        x.load(0, 70);
        int[] due = {60, 50, 4, 3, 2, 1};
        for (int i = 0; i < due.length; i++) {
            Check.due("undo()", x.undo(), 5 - i);
            Check.due("line(0, 0)", x.line(0, 0), due[i]);
        }
    }

    static void undoManyTimesOver() {
        DroopBoard x = new DroopBoard();
        for (int load = 1; load <= 100; load++) {
            x.load(0, load);
        }
        for (int left = 5; left >= 0; left--) {
            x.undo();
            Check.due("line(0, 0)", x.line(0, 0), 94 + left);
        }
    }

    static void theLastOf512Calls() {
        DroopBoard x = new DroopBoard();
        for (int call = 1; call <= 509; call++) {
            x.load(call % 4, call % 301);
        }
        Check.due("call 510", x.line(1, 0), 509 - 301);
        Check.due("call 511", x.undo(), 5);
        Check.due("call 512", x.line(1, 0), 505 - 301);
    }
}
