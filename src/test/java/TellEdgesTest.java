import java.util.function.Supplier;

/**
 * The boundary cases of promises 19 to 29, sentence by sentence; what belongs to "Terms" (the
 * frequency, the powers, the lamps, why a breaker can not be closed) stands in TermsEdgesTest, the
 * calls that are refused in RefusedTest.
 */
public final class TellEdgesTest {
    public static void main(String[] args) throws IllegalAccessException {
        Check.runAll(TellEdgesTest.class);
    }

    /** Set 0 alone, 200 by 200, its breaker closed, and a load. */
    private static DroopBoard alone(int load) {
        DroopBoard x = new DroopBoard();
        Check.closeAll(x, 0);
        takeAll(x, load);
        return x;
    }

    private static void takeAll(DroopBoard x, int load) {
        for (int feeder = 0; feeder < 4; feeder++) {
            x.load(feeder, Math.max(0, Math.min(300, load - 300 * feeder)));
        }
    }

    // ---- promises 19 to 22

    static void promise19EachNumberFrom0To12() {
        DroopBoard x = new DroopBoard();
        x.build(1, 111, 222);
        x.run(1);
        x.speed(1, 5003);
        int[] due = {111, 222, 5003, 1, 0, 0, 0, 0, 0, 0, 0, 0, 0};
        for (int what = 0; what <= 12; what++) {
            Check.due("diesel(1, " + what + ")", x.diesel(1, what), due[what]);
        }
        Check.due("diesel(2, 0)", x.diesel(2, 0), 400);
        Check.due("diesel(0, 12)", x.diesel(0, 12), 1);
    }

    static void promise19ThePowerIsTheOneOfNow() {
        DroopBoard x = alone(100);
        Check.due("diesel(0, 5)", x.diesel(0, 5), 100);
        x.feeder(0, 0);
        Check.due("diesel(0, 5)", x.diesel(0, 5), 0);
        x.feeder(0, 1);
        x.open(0);
        Check.due("diesel(0, 5)", x.diesel(0, 5), 0);
    }

    static void promise19EnergyBelow0() {
        DroopBoard x = alone(0);
        x.set(1, 9);
        Check.closeAll(x, 1);
        x.speed(1, 4900);
        int power = x.diesel(1, 5);
        Check.due("the power is below 0", power < 0 ? 1 : 0, 1);
        x.pass(3);
        Check.due("diesel(1, 10)", x.diesel(1, 10), 3 * power);
        Check.due("diesel(0, 10)", x.diesel(0, 10), -3 * power);
        Check.due("count(10)", x.count(10), 0);
    }

    static void promise19TripsOfEachSet() {
        DroopBoard x = alone(300);
        x.pass(3);
        x.close(0);
        x.pass(3);
        Check.due("diesel(0, 11)", x.diesel(0, 11), 2);
        Check.due("diesel(1, 11)", x.diesel(1, 11), 0);
        Check.due("count(8)", x.count(8), 2);
    }

    static void promise20EachNumberFrom0To2() {
        DroopBoard x = alone(300);
        x.load(3, 7);
        x.pass(1);
        x.feeder(3, 1);
        x.pass(1);
        int[] due = {7, 0, 2};
        for (int what = 0; what <= 2; what++) {
            Check.due("line(3, " + what + ")", x.line(3, what), due[what]);
        }
        Check.due("line(0, 0)", x.line(0, 0), 300);
        Check.due("line(0, 1)", x.line(0, 1), 1);
        Check.due("count(9)", x.count(9), 2);
    }

    static void promise21EachNumberFrom0To11() {
        DroopBoard x = alone(310);
        x.run(2);
        x.pass(1);
        // feeder 1 with the 10 that lack was shed
        int[] due = {1, 4700, 4700, 300, 300, 0, 2, 1, 0, 1, 300, 6};
        for (int what = 0; what <= 11; what++) {
            Check.due("count(" + what + ")", x.count(what), due[what]);
        }
    }

    static void promise21SavedStatesFrom0To6() {
        DroopBoard x = new DroopBoard();
        int[] due = {0, 1, 2, 3, 4, 5, 6, 6, 6};
        for (int saved : due) {
            Check.due("count(11)", x.count(11), saved);
            x.load(0, 1);
        }
        x.undo();
        Check.due("count(11)", x.count(11), 5);
    }

    static void promise21ThePowersAreTheLoadUnlessTheBoardLacks() {
        DroopBoard x = alone(0);
        Check.closeAll(x, 1, 2);
        for (int load = 0; load <= 90; load++) {
            x.load(0, load);
            Check.due("count(4)", x.count(4), load);
        }
    }

    static void promise22EachSettingFrom0To3() {
        DroopBoard x = new DroopBoard();
        int[] due = {3, 2, 10, 30};
        for (int setting = 0; setting < 4; setting++) {
            Check.due("setting(" + setting + ")", x.setting(setting), due[setting]);
        }
    }

    // ---- promise 23

    private static void dueIf(DroopBoard x, int set, int speed, int... due) {
        for (int what = 0; what < due.length; what++) {
            Check.due("ifSpeed(" + set + ", " + speed + ", " + what + ")", x.ifSpeed(set, speed, what), due[what]);
        }
    }

    static void promise23SpeedsFrom4700To5300() {
        DroopBoard x = alone(100);
        dueIf(x, 0, 4700, 4700, 0, 100);
        dueIf(x, 0, 4799, 4700, 99, 1);
        dueIf(x, 0, 4800, 4700, 100, 0);
        dueIf(x, 0, 4801, 4701, 100, 0);
        dueIf(x, 0, 5300, 5200, 100, 0);
        takeAll(x, 0);
        dueIf(x, 0, 4700, 4700, 0, 0);
        dueIf(x, 0, 5300, 5300, 0, 0);
    }

    static void promise23OfTheSpeedThatItHas() {
        DroopBoard x = alone(100);
        dueIf(x, 0, 5000, x.count(1), x.diesel(0, 5), x.count(5));
    }

    static void promise23OfASetThatIsRelieved() {
        DroopBoard x = alone(0);
        Check.closeAll(x, 1, 2);
        takeAll(x, 89);
        // at 4980: 20, 30, 40, which is 1 more
        dueIf(x, 0, 5000, 4980, 19, 0);
        dueIf(x, 1, 5000, 4980, 30, 0);
        dueIf(x, 2, 5000, 4980, 40, 0);
    }

    static void promise23OfASetWhoseBreakerIsOpen() {
        DroopBoard x = alone(100);
        x.run(1);
        dueIf(x, 1, 5300, 4900, 0, 0);
        dueIf(x, 2, 4700, 4900, 0, 0);
    }

    static void promise23OfABoardThatIsNotAlive() {
        DroopBoard x = alone(100);
        x.open(0);
        dueIf(x, 0, 5300, 0, 0, 0);
        dueIf(x, 2, 4700, 0, 0, 0);
    }

    static void promise23NothingIsChanged() {
        DroopBoard x = alone(100);
        long before = x.digest();
        dueIf(x, 0, 5300, 5200, 100, 0);
        Check.due("diesel(0, 2)", x.diesel(0, 2), 5000);
        Check.due("digest()", x.digest(), before);
        Check.due("count(11)", x.count(11), 6);
    }

    // ---- promise 24

    /** Set 0 holds 5000; set 1 runs with a phase and a slip. */
    private static DroopBoard slipping(int phase, int slip) {
        DroopBoard x = alone(0);
        x.run(1);
        Check.reachPhase(x, 1, phase);
        x.speed(1, 5000 + slip);
        return x;
    }

    private static void dueIn(DroopBoard x, int set, int due) {
        Check.due("closeIn(" + set + ")", x.closeIn(set), due);
        int ticks = due;
        while (ticks > 1) {
            int next = Math.min(99, ticks - 1);
            x.pass(next);
            ticks -= next;
            Check.due("why not yet, " + ticks + " before", x.diesel(set, 12) > 0 ? 1 : 0, 1);
        }
        if (ticks == 1) {
            Check.due("why not yet", x.diesel(set, 12) > 0 ? 1 : 0, 1);
            x.pass(1);
        }
        Check.due("why not then", x.diesel(set, 12), 0);
    }

    static void promise24Is0IfItCanBeClosedNow() {
        dueIn(slipping(0, 0), 1, 0);
        dueIn(slipping(30, 10), 1, 0);
        dueIn(slipping(970, -10), 1, 0);
    }

    static void promise24Is0IfTheBoardIsNotAlive() {
        DroopBoard x = slipping(500, 300);
        x.open(0);
        dueIn(x, 1, 0);
        dueIn(x, 0, 0);
    }

    static void promise24Behind1Tick() {
        dueIn(slipping(31, -1), 1, 1);
        dueIn(slipping(969, 1), 1, 1);
        dueIn(slipping(40, -10), 1, 1);
    }

    static void promise24Behind500Ticks() {
        DroopBoard x = slipping(500, 1);
        x.set(3, 0);
        dueIn(x, 1, 500);
        x = slipping(500, -1);
        x.set(3, 0);
        dueIn(x, 1, 500);
    }

    static void promise24NotWithin500Ticks() {
        DroopBoard x = slipping(499, 1);
        x.set(3, 0);
        Check.due("closeIn(1) behind 501", x.closeIn(1), -1);
        x.pass(1);
        Check.due("closeIn(1) behind 500", x.closeIn(1), 500);
        x.pass(1);
        Check.due("closeIn(1) behind 499", x.closeIn(1), 499);
        x = slipping(501, -1);
        x.set(3, 0);
        Check.due("closeIn(1) behind 501", x.closeIn(1), -1);
    }

    static void promise24IsNoneIfItNeverCanBe() {
        Check.due("closeIn(1) with lamps that stay", slipping(31, 0).closeIn(1), -1);
        Check.due("closeIn(1) with the slip 11", slipping(0, 11).closeIn(1), -1);
        Check.due("closeIn(1) with the slip -11", slipping(0, -11).closeIn(1), -1);
        DroopBoard x = slipping(40, 50);
        x.set(2, 50);
        x.set(3, 9);
        Check.due("closeIn(1) with phases of 40 and 50 more", x.closeIn(1), -1);
        x.set(3, 10);
        dueIn(x, 1, 19);
    }

    static void promise24IsNoneIfItDoesNotRun() {
        DroopBoard x = new DroopBoard();
        Check.due("closeIn(0) of a dead board", x.closeIn(0), -1);
        x = alone(300);
        Check.due("closeIn(1) of a board that will be dead", x.closeIn(1), -1);
    }

    static void promise24IsNoneIfItIsClosedAndStays() {
        DroopBoard x = alone(220);
        Check.due("closeIn(0)", x.closeIn(0), -1);
    }

    static void promise24OfAClosedSetThatTrips() {
        DroopBoard x = alone(0);
        Check.closeAll(x, 1);
        x.set(1, 5);
        x.speed(1, 4965);
        x.set(2, 35);
        dueIn(x, 1, 5);
        Check.due("count(8)", x.count(8), 1);
    }

    static void promise24OfTheLastSetThatTrips() {
        DroopBoard x = alone(221);
        dueIn(x, 0, 3);
        Check.due("dead", x.count(1), 0);
    }

    static void promise24WhenAFeederIsShed() {
        DroopBoard x = alone(295);
        x.load(3, 6);
        x.run(1);
        x.speed(1, 4716);
        Check.due("diesel(1, 12)", x.diesel(1, 12), 3);
        x.speed(1, 4715);
        Check.due("diesel(1, 12)", x.diesel(1, 12), 3);
        dueIn(x, 1, 1);
        Check.due("count(9)", x.count(9), 1);
    }

    static void promise24NothingIsChanged() {
        DroopBoard x = slipping(500, 1);
        long before = x.digest();
        x.closeIn(1);
        Check.due("digest()", x.digest(), before);
        Check.due("count(0)", x.count(0), 3);
    }

    // ---- promise 25

    /** The document's words, with few calls for each object. */
    private static int lowestFair(Supplier<DroopBoard> boards, int set, int share) {
        DroopBoard x = boards.get();
        int best = -1;
        int least = 0;
        for (int speed = 4700; speed <= 5300; speed++) {
            if (speed % 200 == 0) {
                x = boards.get();
            }
            int difference = Math.abs(x.ifSpeed(set, speed, 1) - share);
            if (best < 0 || difference < least) {
                best = speed;
                least = difference;
            }
        }
        return best;
    }

    private static void dueFair(Supplier<DroopBoard> boards, int set, int share) {
        Check.due("fairSpeed(" + set + ")", boards.get().fairSpeed(set), lowestFair(boards, set, share));
    }

    private static void dueFair(Supplier<DroopBoard> boards, int set, int share, int due) {
        Check.due("fairSpeed(" + set + ")", boards.get().fairSpeed(set), due);
        dueFair(boards, set, share);
    }

    static void promise25IsNoneIfTheBreakerIsOpen() {
        DroopBoard x = new DroopBoard();
        Check.due("fairSpeed(0) of a dead board", x.fairSpeed(0), -1);
        x.run(0);
        Check.due("fairSpeed(0) of a set that runs", x.fairSpeed(0), -1);
        x = alone(100);
        x.run(2);
        Check.due("fairSpeed(1)", x.fairSpeed(1), -1);
        Check.due("fairSpeed(2)", x.fairSpeed(2), -1);
    }

    static void promise25SpeedsFrom4700() {
        dueFair(() -> alone(0), 0, 0, 4700);
        dueFair(() -> alone(1), 0, 1, 4701);
    }

    static void promise25SpeedsUpTo5300() {
        dueFair(() -> alone(599), 0, 599, 5299);
        dueFair(() -> alone(600), 0, 600, 5300);
        dueFair(() -> alone(601), 0, 601, 5300);
        dueFair(() -> alone(1200), 0, 1200, 5300);
    }

    private static DroopBoard two(int load) {
        DroopBoard x = new DroopBoard();
        Check.closeAll(x, 0, 1);
        takeAll(x, load);
        return x;
    }

    static void promise25OfSeveralTheLowest() {
        // with 4999 set 1 gives 0, as with 5000, since set 0 is relieved of its 1; with 4998 -1
        dueFair(() -> two(0), 1, 0, 4999);
        dueFair(() -> two(0), 0, 0, 5000);
    }

    static void promise25TheShareIsRoundedTowards0() {
        // 101 * 300 / 500 would be 60.6
        dueFair(() -> two(101), 1, 60);
        int up = lowestFair(() -> two(101), 1, 61);
        Check.due("another speed for 61", two(101).fairSpeed(1) == up ? 1 : 0, 0);
    }

    static void promise25TheRatingsOfClosedSetsAlone() {
        Supplier<DroopBoard> boards = () -> {
            DroopBoard x = new DroopBoard();
            Check.closeAll(x, 0, 2);
            x.run(1);
            takeAll(x, 120);
            return x;
        };
        // 120 * 200 / 600 and 120 * 400 / 600
        dueFair(boards, 0, 40);
        dueFair(boards, 2, 80);
        int byAll = lowestFair(boards, 2, 120 * 400 / 900);
        Check.due("another speed by all ratings", boards.get().fairSpeed(2) == byAll ? 1 : 0, 0);
    }

    static void promise25AShareThatNoSpeedGives() {
        Supplier<DroopBoard> boards = () -> {
            DroopBoard x = new DroopBoard();
            x.build(0, 500, 100);
            x.build(1, 100, 400);
            Check.closeAll(x, 0, 1);
            x.speed(0, 5300);
            takeAll(x, 600);
            return x;
        };
        // 600 * 100 / 600 is 100; with 5300 for both the frequency is 5185, which gives 575 and 28
        Check.due("ifSpeed(1, 5300, 1)", boards.get().ifSpeed(1, 5300, 1), 28);
        dueFair(boards, 1, 100);
    }

    static void promise25NothingIsChanged() {
        DroopBoard x = two(100);
        long before = x.digest();
        x.fairSpeed(1);
        Check.due("digest()", x.digest(), before);
        Check.due("diesel(1, 2)", x.diesel(1, 2), 5000);
    }

    // ---- promise 26

    private static void dueTrip(DroopBoard x, int due) {
        Check.due("nextTrip()", x.nextTrip(), due);
        if (due > 1) {
            Check.due("pass() up to it", x.pass(due - 1), 0);
        }
        Check.due("pass() of the last one trips", x.pass(1) > 0 ? 1 : 0, 1);
    }

    static void promise26IsNoneIfNoneTrips() {
        DroopBoard x = new DroopBoard();
        Check.due("nextTrip() of a new object", x.nextTrip(), -1);
        x.run(0);
        Check.due("nextTrip() of a dead board", x.nextTrip(), -1);
        x = alone(220);
        Check.due("nextTrip() of a board that holds", x.nextTrip(), -1);
        Check.due("pass(99)", x.pass(99), 0);
        Check.due("pass(1)", x.pass(1), 0);
    }

    static void promise26InTheTickThatComesNext() {
        DroopBoard x = alone(221);
        x.set(0, 1);
        dueTrip(x, 1);
        x = alone(221);
        x.pass(2);
        dueTrip(x, 1);
    }

    static void promise26Behind9Ticks() {
        DroopBoard x = alone(221);
        x.set(0, 9);
        dueTrip(x, 9);
    }

    static void promise26BehindAsManyTicksAsThereCanBe() {
        // four feeders are shed in four ticks, and then the slower set is driven
        DroopBoard x = new DroopBoard();
        x.set(1, 9);
        x.build(0, 200, 400);
        x.build(1, 200, 400);
        Check.closeAll(x, 0, 1);
        x.speed(1, 4900);
        for (int feeder = 0; feeder < 4; feeder++) {
            x.load(feeder, 300);
        }
        dueTrip(x, 13);
        Check.due("count(9)", x.count(9), 4);
        Check.due("diesel(1, 11)", x.diesel(1, 11), 1);
    }

    static void promise26TheFirstOfSeveral() {
        DroopBoard x = alone(0);
        Check.closeAll(x, 1);
        x.set(0, 4);
        x.set(1, 6);
        x.speed(1, 4800);
        takeAll(x, 221);
        x.speed(0, 5250);
        Check.due("set 0 is loaded too much", x.diesel(0, 5) > 220 ? 1 : 0, 1);
        Check.due("set 1 is driven", x.diesel(1, 5) < -15 ? 1 : 0, 1);
        Check.due("nextTrip()", x.nextTrip(), 4);
        x.set(1, 3);
        dueTrip(x, 3);
    }

    static void promise26OfAllAtOnce() {
        DroopBoard x = alone(0);
        x.open(0);
        x.halt(0);
        x.build(1, 200, 200);
        Check.closeAll(x, 0, 1);
        takeAll(x, 442);
        dueTrip(x, 3);
        Check.due("count(8)", x.count(8), 2);
    }

    static void promise26NothingIsChanged() {
        DroopBoard x = alone(301);
        long before = x.digest();
        Check.due("nextTrip()", x.nextTrip(), 3);
        Check.due("digest()", x.digest(), before);
        Check.due("count(9)", x.count(9), 0);
    }

    // ---- promises 27 and 28

    static void promise27Is0IfTheBoardIsNotAlive() {
        DroopBoard x = new DroopBoard();
        x.load(0, 100);
        Check.due("loadShare() of sets that stand", x.loadShare(), 0.0);
        x.run(0);
        Check.due("loadShare() of sets that run", x.loadShare(), 0.0);
        x = alone(100);
        x.open(0);
        Check.due("loadShare() when all are open", x.loadShare(), 0.0);
    }

    static void promise27WithoutALoad() {
        Check.due("loadShare()", alone(0).loadShare(), 0.0);
    }

    static void promise27OfLessAndMoreThan1() {
        Check.due("loadShare()", alone(1).loadShare(), 1.0 / 200.0);
        Check.due("loadShare()", alone(199).loadShare(), 199.0 / 200.0);
        Check.due("loadShare()", alone(200).loadShare(), 1.0);
        Check.due("loadShare()", alone(201).loadShare(), 201.0 / 200.0);
        Check.due("loadShare() of what lacks too", alone(1200).loadShare(), 6.0);
    }

    static void promise27OfTheRatingsOfClosedSets() {
        DroopBoard x = two(100);
        x.run(2);
        Check.due("loadShare()", x.loadShare(), 0.2);
        x.open(0);
        Check.due("loadShare()", x.loadShare(), 100.0 / 300.0);
    }

    static void promise27IsADoubleNotAFloat() {
        DroopBoard x = two(77);
        x.open(0);
        Check.due("loadShare()", x.loadShare(), 77.0 / 300.0);
        Check.due("no float", (double) (77.0f / 300.0f) == 77.0 / 300.0 ? 1 : 0, 0);
    }

    static void promise28Is0WithoutTicks() {
        DroopBoard x = alone(100);
        Check.due("meanPower()", x.meanPower(), 0.0f);
        x.pass(1);
        Check.due("meanPower()", x.meanPower(), 100.0f);
        x.undo();
        Check.due("meanPower() behind undo()", x.meanPower(), 0.0f);
    }

    static void promise28WithoutEnergy() {
        DroopBoard x = new DroopBoard();
        x.pass(99);
        Check.due("meanPower()", x.meanPower(), 0.0f);
    }

    static void promise28OfAllTicksSoFar() {
        DroopBoard x = new DroopBoard();
        x.pass(2);
        Check.closeAll(x, 0);
        x.load(0, 1);
        x.pass(1);
        Check.due("meanPower()", x.meanPower(), 1.0f / 3.0f);
        x.load(0, 300);
        x.load(1, 300);
        x.pass(1);
        Check.due("meanPower() without what lacked", x.meanPower(), 301.0f / 4.0f);
    }

    static void promise28TheEnergyAsAFloat() {
        DroopBoard x = new DroopBoard();
        for (int set = 0; set < 3; set++) {
            x.build(set, 500, 100);
        }
        Check.closeAll(x, 0, 1, 2);
        takeAll(x, 1199);
        for (int i = 0; i < 142; i++) {
            x.pass(99);
        }
        x.load(0, 298);
        x.pass(2);
        int energy = 142 * 99 * 1199 + 2 * 1197;
        Check.due("count(10)", x.count(10), energy);
        Check.due("the energy is a float", (int) (float) energy == energy ? 1 : 0, 1);
        x.pass(1);
        energy += 1197;
        Check.due("count(10)", x.count(10), energy);
        Check.due("the energy is none", (int) (float) energy == energy ? 1 : 0, 0);
        Check.due("meanPower()", x.meanPower(), (float) energy / (float) (142 * 99 + 3));
        Check.due("digest()", x.digest(), DigestOf.of(x, false, ""));
    }

    // ---- promise 29

    private static long hashed(int... values) {
        long hash = 3701;
        for (int value : values) {
            hash = 31 * hash + value;
        }
        return hash;
    }

    static void promise29OfANewObject() {
        int[] values = {
            0, 0, 0, 0, 0, 0, 0, 0, 0, 0, 0, 0,
            3, 2, 10, 30,
            200, 200, 5000, 0, 0, 0, 0, 0, 0, 0, 0, 0, 1, 0, 0, 0, -1, -1,
            300, 200, 5000, 0, 0, 0, 0, 0, 0, 0, 0, 0, 1, 0, 0, 0, -1, -1,
            400, 200, 5000, 0, 0, 0, 0, 0, 0, 0, 0, 0, 1, 0, 0, 0, -1, -1,
            0, 1, 0, 0, 1, 0, 0, 1, 0, 0, 1, 0,
            -1, 0, 0, 0, 0,
        };
        Check.due("digest()", new DroopBoard().digest(), hashed(values));
    }

    static void promise29OfTheSnapshot() {
        DroopBoard x = new DroopBoard();
        long before = x.digest();
        x.keep();
        // 1 in place of 0, and then the length of the buffer
        Check.due("digest()", x.digest(), before + 31);
        x.keep();
        Check.due("digest()", x.digest(), before + 31);
    }

    static void promise29OfTheBuffer() {
        DroopBoard x = new DroopBoard();
        long before = x.digest();
        x.append('~');
        Check.due("digest() of ~", x.digest(), 31 * (before + 1) + '~');
        x.append('!');
        Check.due("digest() of ~!", x.digest(), 31 * (31 * (before + 2) + '~') + '!');
        x.clearBuffer();
        Check.due("digest()", x.digest(), before);
    }

    static void promise29OfAFullBuffer() {
        DroopBoard x = new DroopBoard();
        String text = "s0=4700;r1;t99;f3-;~!;".repeat(3).substring(0, 60);
        Check.type(x, text);
        Check.due("digest()", x.digest(), DigestOf.of(x, false, text));
    }

    static void promise29TheBitsOfSharesBelow1And2AndAbove() {
        int[] loads = {0, 1, 100, 199, 200, 201, 399, 400, 401, 800, 1200};
        for (int load : loads) {
            DroopBoard x = alone(load);
            Check.due("digest() with the load " + load, x.digest(), DigestOf.of(x, false, ""));
        }
    }

    static void promise29TheBitsOfMeansBelow1And2AndAbove() {
        int[] loads = {0, 1, 2, 3, 4, 5, 127, 128, 129, 255, 256, 257, 300};
        for (int load : loads) {
            DroopBoard x = alone(load);
            x.pass(1);
            Check.due("digest() with the mean " + load, x.digest(), DigestOf.of(x, false, ""));
            x.open(0);
            x.pass(2);
            Check.due("digest() with a third of " + load, x.digest(), DigestOf.of(x, false, ""));
        }
    }

    static void promise29OfSavedStates() {
        DroopBoard x = new DroopBoard();
        x.load(0, 0);
        Check.due("digest() with 1", x.digest(), DigestOf.of(x, false, ""));
        x.load(0, 0);
        x.load(0, 0);
        x.load(0, 0);
        x.load(0, 0);
        x.load(0, 0);
        long six = x.digest();
        x.load(0, 0);
        Check.due("digest() with 6 again", x.digest(), six);
    }

    static void promise29OfABoardThatLacksAndTrips() {
        DroopBoard x = two(900);
        x.run(2);
        x.speed(2, 4705);
        for (int ticks = 1; ticks <= 4; ticks++) {
            Check.due("digest() behind " + ticks, x.digest(), DigestOf.of(x, false, ""));
            x.pass(1);
        }
        Check.due("count(8)", x.count(8), 2);
    }

    static void promise29NothingIsChanged() {
        DroopBoard x = two(900);
        long before = x.digest();
        for (int i = 0; i < 20; i++) {
            Check.due("digest() again", x.digest(), before);
        }
    }

    static void theConstantNone() {
        Check.due("NONE", DroopBoard.NONE, -1);
    }
}
