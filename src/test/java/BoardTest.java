/** Promises 8 to 11: feeders, ticks, settings; with the frequency, the powers and the tick. */
public final class BoardTest {
    public static void main(String[] args) {
        load();
        feeder();
        pass();
        frequencyRoundsTowardsZero();
        lowestSetIsRelieved();
        phases();
        overload();
        driven();
        twentieth();
        tripsAllAtOnce();
        shedding();
        settings();
        Check.end("BoardTest");
    }

    private static void load() {
        DroopBoard x = new DroopBoard();
        Check.due("8: load(3, 300)", x.load(3, 300), 0);
        Check.due("8: load(3, 0)", x.load(3, 0), 300);
        Check.due("8: load(3, 7)", x.load(3, 7), 0);
        Check.due("8: the load", x.line(3, 0), 7);
        Check.due("8: another feeder", x.line(2, 0), 0);
        x.feeder(3, 0);
        Check.due("8: load(3, 8), switched off", x.load(3, 8), 7);
        Check.dueUndoable(x, "8: load(1, 100)", () -> x.load(1, 100));
        Check.dueNoIndex(x, "8: load(-1, -1)", () -> x.load(-1, -1));
        Check.dueNoIndex(x, "8: load(4, 0)", () -> x.load(4, 0));
        Check.dueNoArgument(x, "8: load(0, -1)", () -> x.load(0, -1));
        Check.dueNoArgument(x, "8: load(0, 301)", () -> x.load(0, 301));
    }

    private static void feeder() {
        DroopBoard x = new DroopBoard();
        Check.closeAll(x, 0);
        x.load(0, 40);
        x.load(3, 50);
        Check.due("9: feeder(3, 0)", x.feeder(3, 0), 1);
        Check.due("9: the load of the board", x.count(3), 40);
        Check.due("9: feeder(3, 0)", x.feeder(3, 0), 0);
        Check.due("9: feeder(3, 1)", x.feeder(3, 1), 0);
        Check.due("9: the load of the board", x.count(3), 90);
        Check.due("9: no shed", x.line(3, 2), 0);
        Check.dueUndoable(x, "9: feeder(0, 0)", () -> x.feeder(0, 0));
        Check.dueUndoable(x, "9: feeder(0, 1), the same", () -> x.feeder(0, 1));
        Check.dueNoIndex(x, "9: feeder(-1, 2)", () -> x.feeder(-1, 2));
        Check.dueNoIndex(x, "9: feeder(4, 1)", () -> x.feeder(4, 1));
        Check.dueNoArgument(x, "9: feeder(0, -1)", () -> x.feeder(0, -1));
        Check.dueNoArgument(x, "9: feeder(0, 2)", () -> x.feeder(0, 2));
    }

    private static void pass() {
        DroopBoard x = new DroopBoard();
        Check.due("10: pass(99)", x.pass(99), 0);
        Check.due("10: ticks", x.count(0), 99);
        Check.closeAll(x, 0, 2);
        x.load(0, 60);
        Check.due("10: frequency", x.count(1), 4980);
        Check.due("10: pass(1)", x.pass(1), 0);
        x.pass(4);
        Check.due("10: ticks", x.count(0), 104);
        Check.due("10: energy of set 0", x.diesel(0, 10), 100);
        Check.due("10: energy of set 2", x.diesel(2, 10), 200);
        Check.due("10: energy of the board", x.count(10), 300);
        Check.dueUndoable(x, "10: pass(7)", () -> x.pass(7));
        Check.dueNoArgument(x, "10: pass(0)", () -> x.pass(0));
        Check.dueNoArgument(x, "10: pass(100)", () -> x.pass(100));
        Check.dueNoArgument(x, "10: pass(-1)", () -> x.pass(-1));
    }

    private static void frequencyRoundsTowardsZero() {
        DroopBoard x = new DroopBoard();
        x.build(1, 100, 400);
        Check.closeAll(x, 0, 1);
        x.speed(1, 4997);
        Check.due("21: -0.75 is rounded to 0", x.count(1), 5000);
        x.speed(1, 4996);
        Check.due("21: -1 is not", x.count(1), 4999);
    }

    private static void lowestSetIsRelieved() {
        DroopBoard x = new DroopBoard();
        x.build(1, 500, 100);
        x.build(2, 500, 100);
        Check.closeAll(x, 1, 2);
        x.load(0, 93);
        Check.due("19: the frequency", x.count(1), 4990);
        Check.due("19: the power of the lowest closed set", x.diesel(1, 5), 43);
        Check.due("19: the power of the other one", x.diesel(2, 5), 50);
        Check.due("19: a set with an open breaker", x.diesel(0, 5), 0);
        x.load(0, 100);
        Check.due("19: nothing is too much", x.diesel(1, 5), 50);
        x.open(1);
        Check.due("19: now another one is the lowest", x.diesel(2, 5), 100);
    }

    private static void phases() {
        DroopBoard x = new DroopBoard();
        x.run(1);
        x.speed(1, 5030);
        x.pass(2);
        Check.due("10: the phase of a dead board", x.diesel(1, 6), 0);
        Check.closeAll(x, 0);
        x.pass(20);
        Check.due("10: the phase", x.diesel(1, 6), 600);
        Check.due("10: the lamps", x.diesel(1, 7), 400);
        Check.due("10: a closed set has no phase", x.diesel(0, 6), 0);
        x.pass(14);
        Check.due("10: the phase behind 1000", x.diesel(1, 6), 20);
        x.speed(1, 4970);
        x.pass(1);
        Check.due("10: the phase below 0", x.diesel(1, 6), 990);
        Check.due("10: the lamps", x.diesel(1, 7), 10);
        x.open(0);
        x.pass(3);
        Check.due("10: the phase stays", x.diesel(1, 6), 990);
        Check.due("10: the phase of a set that opened", x.diesel(0, 6), 0);
    }

    private static void overload() {
        DroopBoard x = new DroopBoard();
        x.build(0, 209, 200);
        Check.closeAll(x, 0);
        x.load(0, 229);
        x.pass(9);
        Check.due("10: 229 is not above 209 and 20", x.diesel(0, 8), 0);
        x.load(0, 230);
        Check.due("10: pass(2)", x.pass(2), 0);
        Check.due("10: loaded too much", x.diesel(0, 8), 2);
        x.load(0, 229);
        x.pass(1);
        Check.due("10: not in a row", x.diesel(0, 8), 0);
        x.load(0, 230);
        Check.due("10: pass(3)", x.pass(3), 1);
        Check.due("10: open", x.diesel(0, 4), 0);
        Check.due("10: it runs on", x.diesel(0, 3), 1);
        Check.due("10: loaded too much for 0 ticks", x.diesel(0, 8), 0);
        Check.due("10: trips of the set", x.diesel(0, 11), 1);
        Check.due("10: trips of the board", x.count(8), 1);
        x.close(0);
        x.pass(2);
        x.set(0, 1);
        Check.due("10: a setting trips in a tick alone", x.diesel(0, 4), 1);
        Check.due("10: pass(1)", x.pass(1), 1);
        Check.due("10: trips of the set", x.diesel(0, 11), 2);
    }

    private static void driven() {
        DroopBoard x = new DroopBoard();
        x.build(1, 119, 119);
        Check.closeAll(x, 0, 1);
        x.speed(1, 4990);
        Check.due("10: the power", x.diesel(1, 5), -5);
        x.pass(5);
        Check.due("10: -5 is not below", x.diesel(1, 9), 0);
        x.speed(1, 4988);
        Check.due("10: the power", x.diesel(1, 5), -6);
        Check.due("10: pass(1)", x.pass(1), 0);
        Check.due("10: driven", x.diesel(1, 9), 1);
        x.speed(1, 4990);
        x.pass(1);
        Check.due("10: not in a row", x.diesel(1, 9), 0);
        x.speed(1, 4988);
        Check.due("10: pass(2)", x.pass(2), 1);
        Check.due("10: open", x.diesel(1, 4), 0);
        Check.due("10: driven for 0 ticks", x.diesel(1, 9), 0);
        Check.due("10: its energy", x.diesel(1, 10), -5 * 6 - 6 * 3);
        Check.due("10: the phase begins at 0", x.diesel(1, 6), 0);
        Check.due("10: trips", x.diesel(1, 11), 1);
        Check.due("10: the other one stays", x.diesel(0, 4), 1);
        x.pass(1);
        Check.due("10: the phase", x.diesel(1, 6), 988);
    }

    private static void twentieth() {
        DroopBoard x = new DroopBoard();
        x.build(1, 120, 120);
        Check.closeAll(x, 0, 1);
        x.speed(1, 4988);
        x.pass(1);
        Check.due("10: -6 is not below 120 by 20", x.diesel(1, 9), 0);
        x.speed(1, 4986);
        x.pass(1);
        Check.due("10: -7 is", x.diesel(1, 9), 1);
    }

    private static void tripsAllAtOnce() {
        DroopBoard x = new DroopBoard();
        Check.closeAll(x, 0, 1);
        x.load(0, 300);
        x.load(1, 300);
        Check.due("10: pass(9)", x.pass(9), 2);
        Check.due("10: trips", x.count(8), 2);
        Check.due("10: dead", x.count(1), 0);
        Check.due("10: energy of a board that died in its 3rd tick", x.count(10), 1800);
    }

    private static void shedding() {
        DroopBoard x = new DroopBoard();
        x.set(0, 9);
        Check.closeAll(x, 0);
        x.load(0, 300);
        x.load(1, 200);
        x.load(2, 100);
        Check.due("10: the lack", x.count(5), 300);
        x.pass(1);
        Check.due("10: feeder 3 has no load", x.line(3, 1), 1);
        Check.due("10: feeder 2 is shed", x.line(2, 1), 0);
        Check.due("10: feeder 1 is not", x.line(1, 1), 1);
        Check.due("10: the energy less what lacks", x.count(10), 300);
        x.pass(1);
        Check.due("10: feeder 1 is shed", x.line(1, 1), 0);
        x.pass(1);
        Check.due("10: nothing lacks", x.line(0, 1), 1);
        Check.due("10: sheds", x.count(9), 2);
        Check.due("10: sheds of feeder 1", x.line(1, 2), 1);
        Check.due("10: sheds of feeder 3", x.line(3, 2), 0);
        x.feeder(1, 1);
        x.pass(1);
        Check.due("10: sheds of feeder 1", x.line(1, 2), 2);
        x.load(3, 1);
        x.pass(1);
        Check.due("10: a lack of 1 sheds a load of 1", x.line(3, 1), 0);
    }

    private static void settings() {
        DroopBoard x = new DroopBoard();
        Check.due("11: set(2, 0)", x.set(2, 0), 10);
        Check.due("11: set(3, 0)", x.set(3, 0), 30);
        Check.closeAll(x, 0);
        x.run(1);
        Check.due("11: slip 0, lamps 0", x.diesel(1, 12), 0);
        x.speed(1, 5001);
        Check.due("11: slip 1", x.diesel(1, 12), 3);
        x.set(2, 1);
        x.pass(1);
        Check.due("11: lamps 1", x.diesel(1, 12), 4);
        x.set(3, 1);
        Check.due("11: lamps 1 are allowed", x.diesel(1, 12), 0);
    }
}
