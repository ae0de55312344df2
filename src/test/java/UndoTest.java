/** Promises 16 to 18: the snapshot, and undo. */
public final class UndoTest {
    public static void main(String[] args) {
        keep();
        goBack();
        undo();
        undoOfSix();
        undoAll();
        undoOfDrivenAndShed();
        Check.end("UndoTest");
    }

    private static void keep() {
        DroopBoard x = new DroopBoard();
        Check.due("16: keep()", x.keep(), 0);
        x.pass(12);
        Check.due("16: keep()", x.keep(), 12);
        Check.due("16: not undoable", x.count(11), 1);
        x.pass(5);
        Check.due("16: the second snapshot stands in place of the first", x.goBack(), 12);
        x.undo();
        x.undo();
        Check.due("16: undo() leaves the snapshot", x.goBack(), 12);
    }

    private static void goBack() {
        DroopBoard x = new DroopBoard();
        Check.dueNoState(x, "17: goBack()", () -> x.goBack());
        x.load(0, 100);
        Check.closeAll(x, 0);
        x.set(3, 77);
        x.pass(3);
        x.keep();
        long before = x.digest();
        x.pass(10);
        x.open(0);
        x.halt(0);
        x.load(0, 200);
        x.feeder(0, 0);
        x.build(0, 500, 400);
        x.speed(0, 4800);
        x.set(3, 10);
        Check.type(x, "t5");
        Check.dueUndoable(x, "17: goBack()", () -> x.goBack());
        Check.due("17: goBack()", x.goBack(), 3);
        Check.due("17: the buffer stays", x.clearBuffer(), 2);
        Check.due("17: saved states", x.count(11), 6);
        Check.due("17: the energy", x.count(10), 300);
        Check.due("17: the setting", x.setting(3), 77);
        Check.due("17: goBack() again", x.goBack(), 3);
        DroopBoard y = new DroopBoard();
        y.load(0, 100);
        Check.closeAll(y, 0);
        y.set(3, 77);
        y.pass(3);
        y.keep();
        Check.due("17: the same calls, the same digest", y.digest(), before);
        y.pass(1);
        Check.due("17: 6 saved states", y.count(11), 6);
        y.keep();
        long full = y.digest();
        y.pass(4);
        y.goBack();
        Check.due("17: the digest behind goBack()", y.digest(), full);
    }

    private static void undo() {
        DroopBoard x = new DroopBoard();
        Check.dueNoState(x, "18: undo()", () -> x.undo());
        x.load(0, 10);
        x.load(0, 20);
        x.load(0, 30);
        Check.due("18: undo()", x.undo(), 2);
        Check.due("18: the load", x.line(0, 0), 20);
        Check.due("18: undo()", x.undo(), 1);
        Check.due("18: the load", x.line(0, 0), 10);
        x.load(0, 40);
        Check.due("18: undo()", x.undo(), 1);
        Check.due("18: the load", x.line(0, 0), 10);
        Check.due("18: undo()", x.undo(), 0);
        Check.due("18: the load", x.line(0, 0), 0);
        Check.dueNoState(x, "18: undo()", () -> x.undo());
    }

    private static void undoOfSix() {
        DroopBoard x = new DroopBoard();
        for (int load = 1; load <= 9; load++) {
            x.load(0, load);
            Check.due("18: saved states", x.count(11), Math.min(load, 6));
        }
        for (int left = 5; left >= 0; left--) {
            Check.due("18: undo()", x.undo(), left);
            Check.due("18: the load", x.line(0, 0), left + 3);
        }
        Check.dueNoState(x, "18: undo()", () -> x.undo());
        for (int load = 11; load <= 19; load++) {
            x.load(0, load);
        }
        x.undo();
        Check.due("18: the load", x.line(0, 0), 18);
    }

    private static void undoOfDrivenAndShed() {
        DroopBoard x = new DroopBoard();
        x.set(1, 9);
        Check.closeAll(x, 0, 1);
        x.speed(1, 4960);
        x.pass(3);
        x.open(1);
        x.undo();
        Check.due("18: driven", x.diesel(1, 9), 3);
        x.load(2, 300);
        x.load(3, 300);
        x.open(1);
        x.pass(1);
        Check.due("18: shed", x.line(3, 2), 1);
        x.keep();
        x.undo();
        Check.due("18: not shed", x.line(3, 2), 0);
        Check.due("18: on", x.line(3, 1), 1);
        x.goBack();
        Check.due("18: shed, in the snapshot", x.line(3, 2), 1);
    }

    /** Whatever a tick counts is restored too. */
    private static void undoAll() {
        DroopBoard x = new DroopBoard();
        Check.closeAll(x, 0);
        x.run(1);
        x.speed(1, 4900);
        x.load(0, 300);
        x.load(1, 300);
        x.pass(1);
        long before = DigestOf.ofState(x);
        x.pass(50);
        Check.due("18: a trip", x.count(8), 1);
        Check.due("18: sheds", x.count(9), 1);
        x.undo();
        x.pass(50);
        x.undo();
        x.run(2);
        x.undo();
        Check.due("18: the state", DigestOf.ofState(x), before);
    }
}
