/** Promises 1 to 7: a new object, and the calls for sets. */
public final class SetsTest {
    public static void main(String[] args) {
        newObject();
        build();
        speed();
        run();
        halt();
        close();
        closeByLamps();
        open();
        Check.end("SetsTest");
    }

    private static void newObject() {
        DroopBoard x = new DroopBoard();
        for (int set = 0; set < 3; set++) {
            int[] due = {200 + 100 * set, 200, 5000, 0, 0, 0, 0, 0, 0, 0, 0, 0, 1};
            for (int what = 0; what < due.length; what++) {
                Check.due("1: diesel(" + set + ", " + what + ")", x.diesel(set, what), due[what]);
            }
        }
        for (int feeder = 0; feeder < 4; feeder++) {
            Check.due("1: load", x.line(feeder, 0), 0);
            Check.due("1: on", x.line(feeder, 1), 1);
            Check.due("1: sheds", x.line(feeder, 2), 0);
        }
        for (int what = 0; what <= 11; what++) {
            Check.due("1: count(" + what + ")", x.count(what), 0);
        }
        int[] settings = {3, 2, 10, 30};
        for (int i = 0; i < settings.length; i++) {
            Check.due("1: setting(" + i + ")", x.setting(i), settings[i]);
        }
        Check.dueNoState(x, "1: goBack()", () -> x.goBack());
        Check.due("1: clearBuffer()", x.clearBuffer(), 0);
        Check.due("1: NONE", DroopBoard.NONE, -1);
    }

    private static void build() {
        DroopBoard x = new DroopBoard();
        Check.due("2: build(1, 100, 400)", x.build(1, 100, 400), 300);
        Check.due("2: rating", x.diesel(1, 0), 100);
        Check.due("2: droop", x.diesel(1, 1), 400);
        Check.due("2: build(1, 500, 100)", x.build(1, 500, 100), 100);
        Check.due("2: rating", x.diesel(1, 0), 500);
        Check.due("2: droop", x.diesel(1, 1), 100);
        Check.due("2: another set", x.diesel(2, 0), 400);
        Check.dueUndoable(x, "2: build(2, 300, 300)", () -> x.build(2, 300, 300));
        Check.dueNoIndex(x, "2: build(-1, 99, 99)", () -> x.build(-1, 99, 99));
        Check.dueNoIndex(x, "2: build(3, 200, 200)", () -> x.build(3, 200, 200));
        x.run(1);
        Check.dueNoArgument(x, "2: build(1, 99, 200)", () -> x.build(1, 99, 200));
        Check.dueNoArgument(x, "2: build(1, 501, 200)", () -> x.build(1, 501, 200));
        Check.dueNoArgument(x, "2: build(1, 200, 99)", () -> x.build(1, 200, 99));
        Check.dueNoArgument(x, "2: build(1, 200, 401)", () -> x.build(1, 200, 401));
        Check.dueNoState(x, "2: build(1, 200, 200)", () -> x.build(1, 200, 200));
    }

    private static void speed() {
        DroopBoard x = new DroopBoard();
        Check.due("3: speed(0, 4700)", x.speed(0, 4700), 5000);
        Check.due("3: speed(0, 5300)", x.speed(0, 5300), 4700);
        Check.due("3: the speed", x.diesel(0, 2), 5300);
        Check.due("3: another set", x.diesel(1, 2), 5000);
        Check.closeAll(x, 0);
        Check.due("3: speed(0, 5100) of a closed set", x.speed(0, 5100), 5300);
        Check.due("3: the frequency", x.count(1), 5100);
        Check.dueUndoable(x, "3: speed(0, 4900)", () -> x.speed(0, 4900));
        Check.dueUndoable(x, "3: speed(0, 5100), the same", () -> x.speed(0, 5100));
        Check.dueNoIndex(x, "3: speed(-1, 0)", () -> x.speed(-1, 0));
        Check.dueNoIndex(x, "3: speed(3, 5000)", () -> x.speed(3, 5000));
        Check.dueNoArgument(x, "3: speed(0, 4699)", () -> x.speed(0, 4699));
        Check.dueNoArgument(x, "3: speed(0, 5301)", () -> x.speed(0, 5301));
    }

    private static void run() {
        DroopBoard x = new DroopBoard();
        Check.due("4: run(2)", x.run(2), 1);
        Check.due("4: run(0)", x.run(0), 2);
        Check.due("4: it runs", x.diesel(0, 3), 1);
        Check.due("4: its breaker is open", x.diesel(0, 4), 0);
        Check.due("4: another set", x.diesel(1, 3), 0);
        Check.dueUndoable(x, "4: run(1)", () -> x.run(1));
        Check.dueNoIndex(x, "4: run(-1)", () -> x.run(-1));
        Check.dueNoIndex(x, "4: run(3)", () -> x.run(3));
        Check.dueNoState(x, "4: run(0)", () -> x.run(0));
        x.close(0);
        Check.dueNoState(x, "4: run(0), closed", () -> x.run(0));
    }

    private static void halt() {
        DroopBoard x = new DroopBoard();
        Check.dueNoState(x, "5: halt(0)", () -> x.halt(0));
        Check.closeAll(x, 0);
        Check.dueNoState(x, "5: halt(0), closed", () -> x.halt(0));
        x.run(1);
        x.speed(1, 5007);
        x.pass(3);
        Check.due("5: the phase before", x.diesel(1, 6), 21);
        Check.dueUndoable(x, "5: halt(1)", () -> x.halt(1));
        Check.due("5: halt(1)", x.halt(1), 1);
        Check.due("5: it stands", x.diesel(1, 3), 0);
        Check.due("5: the phase", x.diesel(1, 6), 0);
        x.pass(1);
        Check.due("5: the phase stays 0", x.diesel(1, 6), 0);
        x.run(1);
        Check.due("5: the phase of a set that begins to run", x.diesel(1, 6), 0);
        Check.dueNoIndex(x, "5: halt(-1)", () -> x.halt(-1));
        Check.dueNoIndex(x, "5: halt(3)", () -> x.halt(3));
    }

    private static void close() {
        DroopBoard x = new DroopBoard();
        x.load(0, 120);
        x.load(1, 80);
        Check.dueNoState(x, "6: close(0), it stands", () -> x.close(0));
        x.run(0);
        x.speed(0, 5200);
        Check.due("6: close(0) of a dead board", x.close(0), 5000);
        Check.due("6: it is closed", x.diesel(0, 4), 1);
        Check.dueNoState(x, "6: close(0), closed", () -> x.close(0));
        x.run(1);
        x.speed(1, 5011);
        Check.dueNoState(x, "6: close(1), slip 11", () -> x.close(1));
        x.speed(1, 4989);
        Check.dueNoState(x, "6: close(1), slip -11", () -> x.close(1));
        x.speed(1, 4990);
        Check.dueUndoable(x, "6: close(1)", () -> x.close(1));
        x.speed(1, 5010);
        Check.due("6: close(1), slip 10", x.close(1), 5006);
        Check.dueNoIndex(x, "6: close(-1)", () -> x.close(-1));
        Check.dueNoIndex(x, "6: close(3)", () -> x.close(3));
    }

    private static void closeByLamps() {
        DroopBoard x = new DroopBoard();
        Check.closeAll(x, 0);
        x.run(1);
        x.speed(1, 5010);
        x.pass(3);
        Check.due("6: lamps 30", x.diesel(1, 7), 30);
        Check.due("6: may be closed", x.diesel(1, 12), 0);
        x.speed(1, 5001);
        x.pass(1);
        Check.due("6: lamps 31", x.diesel(1, 7), 31);
        Check.dueNoState(x, "6: close(1), lamps 31", () -> x.close(1));
        x.speed(1, 4999);
        x.pass(1);
        Check.due("6: close(1), lamps 30", x.close(1), 4999);
        Check.due("6: the phase", x.diesel(1, 6), 0);
    }

    private static void open() {
        DroopBoard x = new DroopBoard();
        Check.closeAll(x, 0, 1);
        x.load(2, 250);
        x.pass(1);
        Check.dueUndoable(x, "7: open(1)", () -> x.open(1));
        Check.due("7: open(1)", x.open(1), 4750);
        Check.due("7: it is open", x.diesel(1, 4), 0);
        Check.due("7: it runs on", x.diesel(1, 3), 1);
        x.pass(1);
        Check.due("7: loaded too much", x.diesel(0, 8), 1);
        Check.due("7: open(0)", x.open(0), 0);
        Check.due("7: loaded too much for 0 ticks", x.diesel(0, 8), 0);
        Check.due("7: no trip", x.diesel(0, 11), 0);
        Check.dueNoState(x, "7: open(0)", () -> x.open(0));
        Check.dueNoState(x, "7: open(2), it stands", () -> x.open(2));
        Check.dueNoIndex(x, "7: open(-1)", () -> x.open(-1));
        Check.dueNoIndex(x, "7: open(3)", () -> x.open(3));
    }
}
