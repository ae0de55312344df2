/** Promises 19 to 22: what is told of sets, feeders, the board and the settings. */
public final class LooksTest {
    public static void main(String[] args) {
        diesel();
        whyNotClosed();
        line();
        count();
        frequency();
        setting();
        Check.end("LooksTest");
    }

    private static void dueOfSet(DroopBoard x, int set, int... due) {
        for (int what = 0; what < due.length; what++) {
            Check.due("19: diesel(" + set + ", " + what + ")", x.diesel(set, what), due[what]);
        }
    }

    private static void diesel() {
        DroopBoard x = new DroopBoard();
        x.build(1, 150, 300);
        x.load(0, 225);
        Check.closeAll(x, 0);
        x.run(1);
        x.speed(1, 4739);
        x.pass(2);
        // 36 less than 4775 in each of two ticks
        dueOfSet(x, 0, 200, 200, 5000, 1, 1, 225, 0, 0, 2, 0, 450, 0, 2);
        dueOfSet(x, 1, 150, 300, 4739, 1, 0, 0, 928, 72, 0, 0, 0, 0, 3);
        dueOfSet(x, 2, 400, 200, 5000, 0, 0, 0, 0, 0, 0, 0, 0, 0, 1);
        x.pass(1);
        dueOfSet(x, 0, 200, 200, 5000, 1, 0, 0, 0, 0, 0, 0, 675, 1, 0);
        x.load(0, 0);
        x.close(0);
        x.set(2, 50);
        x.halt(1);
        x.run(1);
        x.speed(1, 4950);
        x.close(1);
        x.pass(1);
        Check.due("19: driven", x.diesel(1, 9), 1);
        Check.due("19: a power below 0", x.diesel(1, 5), -16);
        Check.dueNoIndex(x, "19: diesel(-1, -1)", () -> x.diesel(-1, -1));
        Check.dueNoIndex(x, "19: diesel(3, 0)", () -> x.diesel(3, 0));
        Check.dueNoArgument(x, "19: diesel(0, -1)", () -> x.diesel(0, -1));
        Check.dueNoArgument(x, "19: diesel(0, 13)", () -> x.diesel(0, 13));
    }

    private static void whyNotClosed() {
        DroopBoard x = new DroopBoard();
        Check.due("19: it does not run", x.diesel(1, 12), 1);
        x.run(1);
        x.speed(1, 5300);
        Check.due("19: dead, so whatever the slip", x.diesel(1, 12), 0);
        Check.closeAll(x, 0);
        Check.due("19: closed", x.diesel(0, 12), 2);
        Check.due("19: the slip", x.diesel(1, 12), 3);
        x.pass(1);
        Check.due("19: the slip goes before the lamps", x.diesel(1, 12), 3);
        x.speed(1, 5010);
        Check.due("19: the lamps", x.diesel(1, 12), 4);
        x.open(0);
        Check.due("19: dead, so whatever the lamps", x.diesel(1, 12), 0);
    }

    private static void line() {
        DroopBoard x = new DroopBoard();
        x.load(2, 300);
        x.feeder(2, 0);
        Check.due("20: its load, switched off", x.line(2, 0), 300);
        Check.due("20: off", x.line(2, 1), 0);
        x.feeder(2, 1);
        x.build(0, 100, 400);
        Check.closeAll(x, 0);
        x.pass(1);
        Check.due("20: off", x.line(2, 1), 0);
        Check.due("20: shed", x.line(2, 2), 1);
        Check.dueNoIndex(x, "20: line(-1, -1)", () -> x.line(-1, -1));
        Check.dueNoIndex(x, "20: line(4, 0)", () -> x.line(4, 0));
        Check.dueNoArgument(x, "20: line(0, -1)", () -> x.line(0, -1));
        Check.dueNoArgument(x, "20: line(0, 3)", () -> x.line(0, 3));
    }

    private static void count() {
        DroopBoard x = new DroopBoard();
        x.load(0, 300);
        x.load(1, 250);
        x.load(2, 30);
        x.feeder(2, 0);
        x.run(2);
        Check.due("21: the load of a dead board", x.count(3), 0);
        Check.closeAll(x, 0);
        int[] due = {0, 4700, 4700, 550, 300, 250, 2, 1, 0, 0, 0, 6};
        dueCounts(x, due);
        x.pass(1);
        int[] shed = {1, 4700, 4700, 300, 300, 0, 2, 1, 0, 1, 300, 6};
        dueCounts(x, shed);
        x.pass(2);
        int[] tripped = {3, 0, 0, 0, 0, 0, 2, 0, 1, 1, 900, 6};
        dueCounts(x, tripped);
        Check.dueNoArgument(x, "21: count(-1)", () -> x.count(-1));
        Check.dueNoArgument(x, "21: count(12)", () -> x.count(12));
    }

    private static void dueCounts(DroopBoard x, int[] due) {
        for (int what = 0; what < due.length; what++) {
            Check.due("21: count(" + what + ")", x.count(what), due[what]);
        }
    }

    private static void frequency() {
        DroopBoard x = new DroopBoard();
        Check.closeAll(x, 0);
        x.speed(0, 5300);
        Check.due("21: the greatest one", x.count(1), 5300);
        Check.due("21: the greatest one, by halving", x.count(2), 5300);
        for (int load = 1; load <= 300; load++) {
            x.load(load % 3, load);
            x.feeder((load + 1) % 3, 0);
            x.feeder(load % 3, 1);
            x.feeder((load + 2) % 3, 0);
            if (load % 50 == 0) {
                x = new DroopBoard();
                Check.closeAll(x, 0);
                x.speed(0, 5000 + load);
                x.load(load % 3, load);
            }
            int due = x.diesel(0, 2) - load;
            Check.due("21: told downwards", x.count(1), due);
            Check.due("21: told by halving", x.count(2), due);
        }
        x.load(1, 300);
        x.feeder(1, 1);
        x.load(0, 1);
        x.feeder(0, 1);
        x.speed(0, 5000);
        Check.due("21: 4700 if there is none", x.count(1), 4700);
        Check.due("21: 4700 if there is none, by halving", x.count(2), 4700);
    }

    private static void setting() {
        DroopBoard x = new DroopBoard();
        Check.due("22: setting(2)", x.setting(2), 10);
        x.set(2, 33);
        Check.due("22: setting(2)", x.setting(2), 33);
        Check.due("22: setting(3)", x.setting(3), 30);
        Check.dueNoIndex(x, "22: setting(-1)", () -> x.setting(-1));
        Check.dueNoIndex(x, "22: setting(4)", () -> x.setting(4));
    }
}
