/**
 * The boundary cases of "A tick" and "Settings", sentence by sentence. They are seen by promises
 * 10 (pass), 11 (set), 15 (obey), 19 to 21 (looks), 24 (closeIn) and 26 (nextTrip).
 */
public final class TickEdgesTest {
    public static void main(String[] args) throws IllegalAccessException {
        Check.runAll(TickEdgesTest.class);
    }

    /** Set 0 alone with a rating, 1 by 1 for its droop, its breaker closed, and a load. */
    private static DroopBoard alone(int rating, int load) {
        DroopBoard x = new DroopBoard();
        x.build(0, rating, Math.min(400, rating));
        Check.closeAll(x, 0);
        x.load(0, Math.min(300, load));
        x.load(1, Math.max(0, load - 300));
        return x;
    }

    /** Set 0 holds 5000 (nearly), and set 1, 1 by 1, is driven by so much. */
    private static DroopBoard driving(int rating, int power) {
        DroopBoard x = new DroopBoard();
        x.build(1, rating, Math.min(400, rating));
        x.build(0, 500, 100);
        x.set(2, 50);
        Check.closeAll(x, 0, 1);
        x.set(1, 9);
        for (int speed = 5000; speed >= 4700 && x.diesel(1, 5) > power; speed--) {
            x.speed(1, speed);
        }
        Check.due("the power of set 1", x.diesel(1, 5), power);
        return x;
    }

    private static void dueSet(DroopBoard x, int set, int closed, int over, int driven, int trips) {
        Check.due("diesel(" + set + ", 4)", x.diesel(set, 4), closed);
        Check.due("diesel(" + set + ", 8)", x.diesel(set, 8), over);
        Check.due("diesel(" + set + ", 9)", x.diesel(set, 9), driven);
        Check.due("diesel(" + set + ", 11)", x.diesel(set, 11), trips);
    }

    // ---- what is found first

    static void allIsFoundBeforeTheFeederIsShed() {
        DroopBoard x = alone(200, 301);
        x.pass(1);
        Check.due("the energy of set 0", x.diesel(0, 10), 300);
        Check.due("the energy of the board", x.count(10), 300);
        Check.due("it was loaded too much", x.diesel(0, 8), 1);
        Check.due("feeder 1 is shed", x.line(1, 1), 0);
        Check.due("nothing lacks", x.count(5), 0);
    }

    static void allIsFoundBeforeTheBreakersTrip() {
        DroopBoard x = alone(200, 300);
        x.set(0, 1);
        x.run(1);
        x.speed(1, 4711);
        Check.due("pass(1)", x.pass(1), 1);
        Check.due("the energy of set 0", x.diesel(0, 10), 300);
        Check.due("the energy of the board", x.count(10), 300);
        Check.due("the phase moved by the slip from 4700", x.diesel(1, 6), 11);
        Check.due("dead", x.count(1), 0);
    }

    // ---- 1: the energy

    static void step1EnergyOfTheRelievedSet() {
        DroopBoard x = new DroopBoard();
        x.build(0, 100, 400);
        x.build(1, 500, 100);
        Check.closeAll(x, 0, 1);
        x.load(0, 1);
        x.pass(3);
        Check.due("the energy of set 0", x.diesel(0, 10), -12);
        Check.due("the energy of set 1", x.diesel(1, 10), 15);
        Check.due("the energy of the board", x.count(10), 3);
    }

    static void step1EnergyOfTheBoardIsTheLoadLessWhatItLacks() {
        DroopBoard x = new DroopBoard();
        x.build(0, 100, 400);
        Check.closeAll(x, 0);
        x.load(0, 300);
        x.pass(1);
        Check.due("the energy of a board that gives 75 of 300", x.count(10), 75);
        Check.due("the energy of set 0", x.diesel(0, 10), 75);
        x.pass(1);
        Check.due("the energy without a load", x.count(10), 75);
    }

    static void step1EnergyStaysWhileTheBoardIsNotAlive() {
        DroopBoard x = alone(200, 100);
        x.pass(1);
        x.open(0);
        x.pass(99);
        Check.due("the energy of set 0", x.diesel(0, 10), 100);
        Check.due("the energy of the board", x.count(10), 100);
        Check.due("ticks", x.count(0), 100);
    }

    // ---- 2: the phases

    static void step2PhaseMovesByTheGreatestSlip() {
        DroopBoard x = alone(200, 0);
        x.speed(0, 4700);
        x.run(1);
        x.speed(1, 5300);
        int[] due = {600, 200, 800, 400, 0, 600};
        for (int phase : due) {
            x.pass(1);
            Check.due("the phase", x.diesel(1, 6), phase);
        }
    }

    static void step2PhaseMovesByTheLeastSlip() {
        DroopBoard x = alone(200, 0);
        x.speed(0, 5300);
        x.run(1);
        x.speed(1, 4700);
        int[] due = {400, 800, 200, 600, 0, 400};
        for (int phase : due) {
            x.pass(1);
            Check.due("the phase", x.diesel(1, 6), phase);
        }
    }

    static void step2PhaseStaysWithTheSlip0() {
        DroopBoard x = alone(200, 50);
        x.run(1);
        x.speed(1, 4950);
        x.pass(99);
        Check.due("the phase", x.diesel(1, 6), 0);
        x.speed(1, 4951);
        x.pass(7);
        Check.due("the phase", x.diesel(1, 6), 7);
    }

    static void step2PhaseStaysIfTheBoardIsNotAlive() {
        DroopBoard x = alone(200, 0);
        x.run(1);
        x.speed(1, 5007);
        x.pass(1);
        x.open(0);
        x.pass(50);
        Check.due("the phase", x.diesel(1, 6), 7);
        Check.due("the phase of the set that opened", x.diesel(0, 6), 0);
        x.close(0);
        x.pass(1);
        Check.due("the phase", x.diesel(1, 6), 14);
    }

    static void step2OnlySetsThatRunWithAnOpenBreakerHaveAPhase() {
        DroopBoard x = alone(200, 100);
        x.speed(2, 5300);
        x.run(1);
        x.pass(3);
        Check.due("the phase of a closed set", x.diesel(0, 6), 0);
        Check.due("the phase of a set that runs", x.diesel(1, 6), 300);
        Check.due("the phase of a set that stands", x.diesel(2, 6), 0);
    }

    // ---- 3: loaded too much, driven

    static void step3LoadedTooMuchIsAboveTheRatingAndATenthOfIt() {
        // a tenth is rounded down
        int[] ratings = {100, 109, 110, 119, 200, 209, 270};
        int[] most = {110, 119, 121, 130, 220, 229, 297};
        for (int i = 0; i < ratings.length; i++) {
            DroopBoard x = alone(ratings[i], most[i]);
            x.pass(1);
            dueSet(x, 0, 1, 0, 0, 0);
            x.load(1, 1);
            x.pass(1);
            dueSet(x, 0, 1, 1, 0, 0);
        }
    }

    static void step3LoadedTooMuchByTheGreatestRating() {
        DroopBoard x = alone(500, 550);
        x.speed(0, 5300);
        x.pass(1);
        dueSet(x, 0, 1, 0, 0, 0);
        x.load(1, 251);
        x.pass(1);
        dueSet(x, 0, 1, 1, 0, 0);
    }

    static void step3LoadedTooMuchForEachTickInARow() {
        DroopBoard x = alone(200, 221);
        x.set(0, 9);
        for (int ticks = 1; ticks <= 8; ticks++) {
            x.pass(1);
            Check.due("ticks in a row", x.diesel(0, 8), ticks);
        }
        x.load(0, 220);
        x.pass(1);
        Check.due("0 ticks", x.diesel(0, 8), 0);
        x.load(0, 221);
        x.pass(1);
        Check.due("1 tick", x.diesel(0, 8), 1);
    }

    static void step3DrivenIsBelow0LessATwentiethOfTheRating() {
        // a twentieth is rounded down
        int[] ratings = {100, 119, 120, 139, 140, 299, 300, 400};
        int[] most = {-5, -5, -6, -6, -7, -14, -15, -20};
        for (int i = 0; i < ratings.length; i++) {
            DroopBoard x = driving(ratings[i], most[i]);
            x.pass(1);
            dueSet(x, 1, 1, 0, 0, 0);
            x = driving(ratings[i], most[i] - 1);
            x.pass(1);
            dueSet(x, 1, 1, 0, 1, 0);
        }
    }

    static void step3DrivenForEachTickInARow() {
        DroopBoard x = driving(100, -6);
        int speed = x.diesel(1, 2);
        for (int ticks = 1; ticks <= 8; ticks++) {
            x.pass(1);
            Check.due("ticks in a row", x.diesel(1, 9), ticks);
        }
        x.speed(1, speed + 1);
        Check.due("the power", x.diesel(1, 5), -5);
        x.pass(1);
        Check.due("0 ticks", x.diesel(1, 9), 0);
        x.speed(1, speed);
        x.pass(1);
        Check.due("1 tick", x.diesel(1, 9), 1);
    }

    static void step3FromLoadedTooMuchToDriven() {
        DroopBoard x = alone(200, 221);
        x.set(0, 9);
        x.set(1, 9);
        x.pass(2);
        dueSet(x, 0, 1, 2, 0, 0);
        x.run(1);
        x.speed(1, x.count(1));
        x.close(1);
        x.load(0, 0);
        x.speed(1, 5300);
        x.pass(1);
        dueSet(x, 0, 1, 0, 1, 0);
    }

    static void step3SetsWithAnOpenBreakerAreNotCounted() {
        DroopBoard x = alone(200, 0);
        x.run(1);
        x.speed(1, 4700);
        x.pass(9);
        dueSet(x, 1, 0, 0, 0, 0);
        dueSet(x, 2, 0, 0, 0, 0);
    }

    // ---- 4: what is shed

    static void step4NothingIsShedIfNothingLacks() {
        DroopBoard x = alone(200, 300);
        x.load(3, 0);
        x.pass(1);
        Check.due("count(9)", x.count(9), 0);
        Check.due("line(0, 1)", x.line(0, 1), 1);
    }

    static void step4ALackOf1Sheds() {
        DroopBoard x = alone(200, 300);
        x.load(3, 1);
        x.pass(1);
        Check.due("count(9)", x.count(9), 1);
        Check.due("line(3, 1)", x.line(3, 1), 0);
        Check.due("line(3, 2)", x.line(3, 2), 1);
        Check.due("line(0, 1)", x.line(0, 1), 1);
    }

    static void step4OneFeederInATickTheGreatestNumberFirst() {
        DroopBoard x = new DroopBoard();
        x.build(0, 100, 400);
        Check.closeAll(x, 0);
        for (int feeder = 0; feeder < 4; feeder++) {
            x.load(feeder, 100 + feeder);
        }
        for (int shed = 3; shed >= 0; shed--) {
            x.pass(1);
            for (int feeder = 0; feeder < 4; feeder++) {
                Check.due("line(" + feeder + ", 1)", x.line(feeder, 1), feeder < shed ? 1 : 0);
            }
        }
        x.pass(1);
        Check.due("count(9)", x.count(9), 4);
    }

    static void step4FeedersWithoutALoadAreNotShed() {
        DroopBoard x = alone(200, 300);
        x.load(1, 5);
        x.pass(1);
        Check.due("line(3, 1)", x.line(3, 1), 1);
        Check.due("line(2, 1)", x.line(2, 1), 1);
        Check.due("line(1, 1)", x.line(1, 1), 0);
        Check.due("line(3, 2)", x.line(3, 2), 0);
    }

    static void step4FeedersThatAreOffAreNotShed() {
        DroopBoard x = alone(200, 300);
        x.load(1, 5);
        x.load(3, 300);
        x.feeder(3, 0);
        x.pass(1);
        Check.due("line(3, 2)", x.line(3, 2), 0);
        Check.due("line(1, 1)", x.line(1, 1), 0);
        Check.due("line(1, 2)", x.line(1, 2), 1);
    }

    static void step4NothingIsShedIfTheBoardIsNotAlive() {
        DroopBoard x = new DroopBoard();
        x.load(0, 300);
        x.run(0);
        x.pass(3);
        Check.due("count(9)", x.count(9), 0);
        Check.due("line(0, 1)", x.line(0, 1), 1);
    }

    static void step4ShedsAlsoInTheTickOfATrip() {
        DroopBoard x = alone(200, 600);
        x.set(0, 1);
        Check.due("pass(1)", x.pass(1), 1);
        Check.due("count(9)", x.count(9), 1);
        Check.due("line(1, 1)", x.line(1, 1), 0);
    }

    // ---- 5: trips

    static void step5TripsWhenLoadedTooMuchForSetting0() {
        for (int most : new int[] {1, 2, 3, 8, 9}) {
            DroopBoard x = alone(200, 221);
            x.set(0, most);
            for (int ticks = 1; ticks < most; ticks++) {
                Check.due("pass(1)", x.pass(1), 0);
                dueSet(x, 0, 1, ticks, 0, 0);
            }
            Check.due("nextTrip()", x.nextTrip(), 1);
            Check.due("pass(1)", x.pass(1), 1);
            dueSet(x, 0, 0, 0, 0, 1);
        }
    }

    static void step5TripsWhenDrivenForSetting1() {
        for (int most : new int[] {1, 2, 3, 8, 9}) {
            DroopBoard x = driving(100, -6);
            x.set(1, most);
            for (int ticks = 1; ticks < most; ticks++) {
                Check.due("pass(1)", x.pass(1), 0);
                dueSet(x, 1, 1, 0, ticks, 0);
            }
            Check.due("nextTrip()", x.nextTrip(), 1);
            Check.due("pass(1)", x.pass(1), 1);
            dueSet(x, 1, 0, 0, 0, 1);
            Check.due("the other one stays", x.diesel(0, 4), 1);
        }
    }

    static void step5TripsForMoreTicksThanTheSetting() {
        DroopBoard x = alone(200, 221);
        x.set(0, 9);
        x.pass(5);
        x.set(0, 2);
        dueSet(x, 0, 1, 5, 0, 0);
        Check.due("pass(1)", x.pass(1), 1);
        x = driving(100, -6);
        x.pass(5);
        x.set(1, 2);
        dueSet(x, 1, 1, 0, 5, 0);
        Check.due("pass(1)", x.pass(1), 1);
    }

    static void step5DoesNotTripIfTheTickMakesIt0Again() {
        DroopBoard x = alone(200, 221);
        x.set(0, 9);
        x.pass(5);
        x.set(0, 1);
        x.load(0, 220);
        Check.due("pass(1)", x.pass(1), 0);
        dueSet(x, 0, 1, 0, 0, 0);
    }

    static void step5EachSettingIsForItsOwnCount() {
        DroopBoard x = alone(200, 221);
        x.set(0, 9);
        x.set(1, 1);
        Check.due("pass(8)", x.pass(8), 0);
        Check.due("pass(1)", x.pass(1), 1);
        x = driving(100, -6);
        x.set(0, 1);
        Check.due("pass(8)", x.pass(8), 0);
        Check.due("pass(1)", x.pass(1), 1);
    }

    static void step5TripsAllAtOnce() {
        DroopBoard x = new DroopBoard();
        x.set(0, 1);
        x.build(0, 200, 200);
        x.build(1, 200, 200);
        x.build(2, 200, 200);
        Check.closeAll(x, 0, 1, 2);
        x.load(0, 300);
        x.load(1, 300);
        x.load(2, 63);
        // 221 each
        Check.due("pass(1)", x.pass(1), 3);
        Check.due("count(7)", x.count(7), 0);
        Check.due("count(8)", x.count(8), 3);
    }

    static void step5TripsOneOnlyWhoseTicksAreFull() {
        DroopBoard x = new DroopBoard();
        x.build(1, 200, 200);
        Check.closeAll(x, 0);
        x.load(0, 221);
        x.pass(2);
        x.run(1);
        x.speed(1, 4779);
        x.close(1);
        x.speed(1, 5000);
        x.load(1, 221);
        // 221 each: the third tick of set 0, the first one of set 1
        Check.due("pass(1)", x.pass(1), 1);
        dueSet(x, 0, 0, 0, 0, 1);
        dueSet(x, 1, 1, 1, 0, 0);
    }

    static void step5ASetThatTripsRunsOn() {
        DroopBoard x = alone(200, 300);
        x.pass(3);
        Check.due("diesel(0, 3)", x.diesel(0, 3), 1);
        Check.due("diesel(0, 4)", x.diesel(0, 4), 0);
        Check.due("count(6)", x.count(6), 1);
        Check.due("count(7)", x.count(7), 0);
    }

    static void step5OpeningIsNoTrip() {
        DroopBoard x = alone(200, 300);
        x.pass(2);
        x.open(0);
        Check.due("diesel(0, 11)", x.diesel(0, 11), 0);
        Check.due("count(8)", x.count(8), 0);
    }

    // ---- when a breaker opens or closes, a set begins to run or stops

    static void phaseIs0WhenABreakerOpens() {
        DroopBoard x = alone(200, 0);
        Check.closeAll(x, 1);
        x.speed(1, 5005);
        x.pass(1);
        x.open(1);
        Check.due("the phase", x.diesel(1, 6), 0);
        x.pass(1);
        Check.due("the phase", x.diesel(1, 6), 5005 - x.count(1));
    }

    static void phaseIs0WhenABreakerTrips() {
        DroopBoard x = driving(100, -6);
        x.set(1, 1);
        x.pass(1);
        Check.due("the phase in the tick of the trip", x.diesel(1, 6), 0);
        x.pass(1);
        Check.due("the phase", x.diesel(1, 6), 1000 + x.diesel(1, 2) - 5000);
    }

    static void phaseIs0WhenASetBeginsToRun() {
        DroopBoard x = alone(200, 0);
        x.run(1);
        Check.reachPhase(x, 1, 700);
        x.halt(1);
        x.run(1);
        Check.due("the phase", x.diesel(1, 6), 0);
    }

    static void countsAre0WhenABreakerOpens() {
        DroopBoard x = alone(200, 221);
        x.pass(2);
        x.open(0);
        dueSet(x, 0, 0, 0, 0, 0);
        x = driving(100, -6);
        x.pass(2);
        x.open(1);
        dueSet(x, 1, 0, 0, 0, 0);
    }

    static void countsAre0WhenABreakerCloses() {
        DroopBoard x = alone(200, 221);
        x.pass(2);
        x.open(0);
        x.close(0);
        dueSet(x, 0, 1, 0, 0, 0);
        Check.due("pass(2)", x.pass(2), 0);
        Check.due("pass(1)", x.pass(1), 1);
    }

    static void countsAre0WhenASetStops() {
        DroopBoard x = alone(200, 221);
        x.pass(2);
        x.open(0);
        x.halt(0);
        dueSet(x, 0, 0, 0, 0, 0);
        x.run(0);
        x.close(0);
        Check.due("nextTrip()", x.nextTrip(), 3);
    }

    static void countsAre0WhenABreakerTrips() {
        DroopBoard x = alone(200, 221);
        x.pass(3);
        x.close(0);
        dueSet(x, 0, 1, 0, 0, 1);
        Check.due("nextTrip()", x.nextTrip(), 3);
        Check.due("pass(99)", x.pass(99), 1);
        dueSet(x, 0, 0, 0, 0, 2);
    }

    // ---- settings (promises 11, 22)

    private static void dueSetting(int setting, int first, int least, int most) {
        DroopBoard x = new DroopBoard();
        Check.due("setting(" + setting + ") at first", x.setting(setting), first);
        Check.due("set to the least", x.set(setting, least), first);
        Check.due("setting(" + setting + ")", x.setting(setting), least);
        Check.due("set to the most", x.set(setting, most), least);
        Check.due("setting(" + setting + ")", x.setting(setting), most);
        Check.dueNoArgument(x, "set below the least", () -> x.set(setting, least - 1));
        Check.dueNoArgument(x, "set above the most", () -> x.set(setting, most + 1));
        for (int other = 0; other < 4; other++) {
            if (other != setting) {
                Check.due("setting(" + other + ")", x.setting(other), new DroopBoard().setting(other));
            }
        }
    }

    static void setting0Is1To9() {
        dueSetting(0, 3, 1, 9);
    }

    static void setting1Is1To9() {
        dueSetting(1, 2, 1, 9);
    }

    static void setting2Is0To50() {
        dueSetting(2, 10, 0, 50);
    }

    static void setting3Is0To200() {
        dueSetting(3, 30, 0, 200);
    }
}
