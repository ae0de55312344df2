/** Promises 23 to 29: what would be, the two shares, and the digest. */
public final class WouldBeTest {
    public static void main(String[] args) {
        ifSpeed();
        closeIn();
        closeInWithin500();
        fairSpeed();
        nextTrip();
        nextTripWithin100();
        loadShare();
        meanPower();
        digest();
        digestOfShares();
        digestOfTheLeastMean();
        Check.end("WouldBeTest");
    }

    private static void ifSpeed() {
        DroopBoard x = new DroopBoard();
        x.load(0, 100);
        Check.due("23: dead", x.ifSpeed(0, 5100, 0), 0);
        Check.closeAll(x, 0);
        x.run(1);
        long before = x.digest();
        Check.due("23: ifSpeed(0, 5100, 0)", x.ifSpeed(0, 5100, 0), 5000);
        Check.due("23: ifSpeed(0, 5100, 1)", x.ifSpeed(0, 5100, 1), 100);
        Check.due("23: ifSpeed(0, 5100, 2)", x.ifSpeed(0, 5100, 2), 0);
        Check.due("23: ifSpeed(0, 4700, 0)", x.ifSpeed(0, 4700, 0), 4700);
        Check.due("23: ifSpeed(0, 4700, 1)", x.ifSpeed(0, 4700, 1), 0);
        Check.due("23: ifSpeed(0, 4760, 2)", x.ifSpeed(0, 4760, 2), 40);
        Check.due("23: ifSpeed(0, 5300, 0)", x.ifSpeed(0, 5300, 0), 5200);
        Check.due("23: an open one", x.ifSpeed(1, 5300, 0), 4900);
        Check.due("23: an open one", x.ifSpeed(1, 5300, 1), 0);
        Check.due("23: nothing is changed", x.digest(), before);
        Check.dueNoIndex(x, "23: ifSpeed(-1, 0, 9)", () -> x.ifSpeed(-1, 0, 9));
        Check.dueNoIndex(x, "23: ifSpeed(3, 5000, 0)", () -> x.ifSpeed(3, 5000, 0));
        Check.dueNoArgument(x, "23: ifSpeed(0, 4699, 0)", () -> x.ifSpeed(0, 4699, 0));
        Check.dueNoArgument(x, "23: ifSpeed(0, 5301, 0)", () -> x.ifSpeed(0, 5301, 0));
        Check.dueNoArgument(x, "23: ifSpeed(0, 5000, -1)", () -> x.ifSpeed(0, 5000, -1));
        Check.dueNoArgument(x, "23: ifSpeed(0, 5000, 3)", () -> x.ifSpeed(0, 5000, 3));
    }

    private static void closeIn() {
        DroopBoard x = new DroopBoard();
        Check.due("24: it does not run", x.closeIn(1), -1);
        x.run(1);
        Check.due("24: dead", x.closeIn(1), 0);
        Check.closeAll(x, 0);
        Check.due("24: closed for good", x.closeIn(0), -1);
        x.speed(1, 5007);
        Check.due("24: now", x.closeIn(1), 0);
        x.pass(5);
        Check.due("24: the lamps are 35", x.diesel(1, 7), 35);
        // 35 and 133 times 7 are 966, one time more makes lamps of 27
        Check.due("24: closeIn(1)", x.closeIn(1), 134);
        long before = x.digest();
        Check.due("24: closeIn(1)", x.closeIn(1), 134);
        Check.due("24: nothing is changed", x.digest(), before);
        x.pass(99);
        x.pass(34);
        Check.due("24: not before", x.diesel(1, 12), 4);
        x.pass(1);
        Check.due("24: then", x.diesel(1, 12), 0);
        x.speed(1, 5011);
        Check.due("24: the slip is too wide", x.closeIn(1), -1);
        x.load(0, 300);
        x.load(1, 20);
        Check.due("24: when the board has died", x.closeIn(1), 3);
        Check.due("24: when its breaker has tripped", x.closeIn(0), 3);
        Check.dueNoIndex(x, "24: closeIn(-1)", () -> x.closeIn(-1));
        Check.dueNoIndex(x, "24: closeIn(3)", () -> x.closeIn(3));
    }

    private static void closeInWithin500() {
        DroopBoard x = new DroopBoard();
        x.set(3, 199);
        Check.closeAll(x, 0);
        x.run(1);
        x.speed(1, 5200);
        x.pass(1);
        x.speed(1, 5001);
        x.pass(1);
        Check.due("24: the lamps are 201", x.diesel(1, 7), 201);
        Check.due("24: not within 500", x.closeIn(1), -1);
        x.pass(99);
        Check.due("24: the lamps are 300", x.diesel(1, 7), 300);
        Check.due("24: behind 501", x.closeIn(1), -1);
        x.pass(1);
        Check.due("24: behind 500", x.closeIn(1), 500);
        x.pass(1);
        Check.due("24: behind 499", x.closeIn(1), 499);
    }

    private static void fairSpeed() {
        DroopBoard x = new DroopBoard();
        Check.due("25: it does not run", x.fairSpeed(0), -1);
        Check.closeAll(x, 0);
        x.run(1);
        Check.due("25: open", x.fairSpeed(1), -1);
        Check.due("25: alone without load, of all speeds the lowest", x.fairSpeed(0), 4700);
        x.load(0, 100);
        Check.due("25: alone with a load", x.fairSpeed(0), 4800);
        x.speed(1, 4900);
        x.close(1);
        // the fair share of set 1 is 60; set 0 gives its 40 at 4960, set 1 60 with 5000; 4998
        // is the lowest one with 60, when set 0 is relieved
        x.speed(0, 5000);
        Check.due("25: fairSpeed(1)", x.fairSpeed(1), 4998);
        Check.due("25: ifSpeed(1, 4998, 1)", x.ifSpeed(1, 4998, 1), 60);
        Check.due("25: ifSpeed(1, 4997, 1)", x.ifSpeed(1, 4997, 1), 58);
        DroopBoard y = new DroopBoard();
        y.build(0, 500, 100);
        y.build(1, 100, 200);
        Check.closeAll(y, 0, 1);
        y.speed(0, 5300);
        y.load(0, 10);
        Check.due("25: its power with 5300", y.ifSpeed(1, 5300, 1), 1);
        Check.due("25: its power with 5299", y.ifSpeed(1, 5299, 1), 0);
        Check.due("25: the greatest speed for 10 * 100 / 600", y.fairSpeed(1), 5300);
        long before = x.digest();
        x.fairSpeed(1);
        Check.due("25: nothing is changed", x.digest(), before);
        Check.dueNoIndex(x, "25: fairSpeed(-1)", () -> x.fairSpeed(-1));
        Check.dueNoIndex(x, "25: fairSpeed(3)", () -> x.fairSpeed(3));
    }

    private static void nextTrip() {
        DroopBoard x = new DroopBoard();
        Check.due("26: dead", x.nextTrip(), -1);
        Check.closeAll(x, 0);
        Check.due("26: none", x.nextTrip(), -1);
        x.load(0, 221);
        Check.due("26: nextTrip()", x.nextTrip(), 3);
        x.pass(2);
        Check.due("26: nextTrip()", x.nextTrip(), 1);
        long before = x.digest();
        x.nextTrip();
        Check.due("26: nothing is changed", x.digest(), before);
        x.set(0, 9);
        Check.due("26: nextTrip()", x.nextTrip(), 7);
        Check.due("26: pass(6)", x.pass(6), 0);
        Check.due("26: pass(1)", x.pass(1), 1);
    }

    /** Nothing that a tick changes can bring a trip behind many ticks, but it is looked for. */
    private static void nextTripWithin100() {
        DroopBoard x = new DroopBoard();
        x.set(0, 9);
        x.build(0, 100, 400);
        Check.closeAll(x, 0);
        for (int feeder = 0; feeder < 4; feeder++) {
            x.load(feeder, 300);
        }
        Check.due("26: 75 is not too much, whatever lacks", x.nextTrip(), -1);
        Check.due("26: pass(99)", x.pass(99), 0);
        Check.due("26: all is shed", x.count(9), 4);
    }

    private static void loadShare() {
        DroopBoard x = new DroopBoard();
        x.load(0, 100);
        Check.due("27: dead", x.loadShare(), 0.0);
        Check.closeAll(x, 0);
        Check.due("27: half", x.loadShare(), 0.5);
        x.speed(1, 4900);
        x.run(1);
        x.close(1);
        Check.due("27: a fifth", x.loadShare(), 0.2);
        x.load(1, 33);
        Check.due("27: 133 of 500", x.loadShare(), 133.0 / 500.0);
        x.load(0, 300);
        x.load(1, 300);
        Check.due("27: the load, also what lacks or is too much", x.loadShare(), 1.2);
    }

    private static void meanPower() {
        DroopBoard x = new DroopBoard();
        Check.due("28: without ticks", x.meanPower(), 0.0f);
        x.pass(2);
        Check.due("28: without energy", x.meanPower(), 0.0f);
        x.load(0, 100);
        Check.closeAll(x, 0);
        x.pass(1);
        Check.due("28: a third", x.meanPower(), 100.0f / 3.0f);
        x.pass(1);
        Check.due("28: a half", x.meanPower(), 50.0f);
    }

    private static void digest() {
        DroopBoard x = new DroopBoard();
        Check.due("29: a new object", x.digest(), DigestOf.of(x, false, ""));
        Check.closeAll(x, 0, 1);
        x.load(0, 100);
        x.load(1, 33);
        x.pass(7);
        x.keep();
        Check.type(x, "s0=5!");
        Check.due("29: digest()", x.digest(), DigestOf.of(x, true, "s0=5!"));
        Check.due("29: nothing is changed", x.digest(), DigestOf.of(x, true, "s0=5!"));
    }

    /** The bits of shares and means from small to great ones. */
    private static void digestOfShares() {
        for (int load = 1; load <= 1200; load += 7) {
            DroopBoard x = new DroopBoard();
            x.build(0, 100 + load % 401, 100);
            Check.closeAll(x, 0);
            for (int feeder = 0; feeder < 4; feeder++) {
                x.load(feeder, Math.max(0, Math.min(300, load - 300 * feeder)));
            }
            Check.due("29: a share of " + load, x.digest(), DigestOf.of(x, false, ""));
            x.pass(1);
            x.open(0);
            x.pass(1 + load % 99);
            Check.due("29: a mean of " + load, x.digest(), DigestOf.of(x, false, ""));
        }
    }

    private static void digestOfTheLeastMean() {
        DroopBoard x = new DroopBoard();
        Check.closeAll(x, 0);
        x.load(0, 1);
        x.pass(1);
        x.load(0, 0);
        for (int i = 1; i <= 300; i++) {
            x.pass(99);
            if (i % 150 == 0) {
                Check.due("29: a mean of 1 in many ticks", x.digest(), DigestOf.of(x, false, ""));
            }
        }
    }
}
