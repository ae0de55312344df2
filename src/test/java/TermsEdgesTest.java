/**
 * The boundary cases that "Terms" names, sentence by sentence: sets, feeders, the frequency, the
 * powers, closing. Each test has the name of its paragraph in front; the promises that show it
 * stand beside it.
 */
public final class TermsEdgesTest {
    public static void main(String[] args) throws IllegalAccessException {
        Check.runAll(TermsEdgesTest.class);
    }

    /** Set 0 alone, with a rating and a droop, its breaker closed, and a load. */
    private static DroopBoard alone(int rating, int droop, int load) {
        DroopBoard x = new DroopBoard();
        x.build(0, rating, droop);
        Check.closeAll(x, 0);
        takeAll(x, load);
        return x;
    }

    /** Spreads a load over the feeders. */
    private static void takeAll(DroopBoard x, int load) {
        for (int feeder = 0; feeder < 4; feeder++) {
            x.load(feeder, Math.max(0, Math.min(300, load - 300 * feeder)));
        }
    }

    private static void dueBoard(DroopBoard x, int frequency, int powers, int lack) {
        Check.due("count(1)", x.count(1), frequency);
        Check.due("count(2)", x.count(2), frequency);
        Check.due("count(4)", x.count(4), powers);
        Check.due("count(5)", x.count(5), lack);
    }

    private static void duePowers(DroopBoard x, int... due) {
        for (int set = 0; set < 3; set++) {
            Check.due("diesel(" + set + ", 5)", x.diesel(set, 5), due[set]);
        }
    }

    // ---- sets (promises 1 to 5, 19)

    static void setsAre3FromNumber0() {
        DroopBoard x = new DroopBoard();
        for (int set = 0; set < 3; set++) {
            Check.due("run(" + set + ")", x.run(set), set + 1);
        }
        Check.dueNoIndex(x, "run(3)", () -> x.run(3));
        Check.dueNoIndex(x, "run(-1)", () -> x.run(-1));
    }

    static void setsHaveARatingAtFirst200And100TimesTheNumber() {
        DroopBoard x = new DroopBoard();
        Check.due("diesel(0, 0)", x.diesel(0, 0), 200);
        Check.due("diesel(1, 0)", x.diesel(1, 0), 300);
        Check.due("diesel(2, 0)", x.diesel(2, 0), 400);
    }

    static void setsHaveADroopOf200AndASpeedOf5000AtFirst() {
        DroopBoard x = new DroopBoard();
        for (int set = 0; set < 3; set++) {
            Check.due("diesel(" + set + ", 1)", x.diesel(set, 1), 200);
            Check.due("diesel(" + set + ", 2)", x.diesel(set, 2), 5000);
        }
    }

    static void setsDoNotRunAtFirstAndAllBreakersAreOpen() {
        DroopBoard x = new DroopBoard();
        for (int set = 0; set < 3; set++) {
            Check.due("diesel(" + set + ", 3)", x.diesel(set, 3), 0);
            Check.due("diesel(" + set + ", 4)", x.diesel(set, 4), 0);
        }
        Check.due("count(6)", x.count(6), 0);
        Check.due("count(7)", x.count(7), 0);
    }

    static void setsAreClosedOnlyIfTheyRun() {
        DroopBoard x = new DroopBoard();
        Check.dueNoState(x, "close(0) of a set that stands", () -> x.close(0));
        Check.closeAll(x, 0);
        Check.dueNoState(x, "halt(0) of a closed set", () -> x.halt(0));
        x.open(0);
        Check.due("it runs on when its breaker opens", x.diesel(0, 3), 1);
        Check.due("halt(0)", x.halt(0), 0);
        Check.due("it is open", x.diesel(0, 4), 0);
    }

    static void boardIsAliveByOneClosedBreaker() {
        for (int set = 0; set < 3; set++) {
            DroopBoard x = new DroopBoard();
            x.load(0, 100);
            for (int other = 0; other < 3; other++) {
                x.run(other);
            }
            Check.due("dead while all run with open breakers", x.count(1), 0);
            x.close(set);
            Check.due("alive by set " + set, x.count(3), 100);
            x.open(set);
            Check.due("dead again", x.count(3), 0);
        }
    }

    static void boardIsAliveUntilTheLastBreakerOpens() {
        DroopBoard x = new DroopBoard();
        Check.closeAll(x, 0, 1, 2);
        Check.due("open(0)", x.open(0), 5000);
        Check.due("open(2)", x.open(2), 5000);
        Check.due("open(1)", x.open(1), 0);
    }

    // ---- feeders, the load (promises 8, 9, 20, 21)

    static void feedersAre4FromNumber0() {
        DroopBoard x = new DroopBoard();
        for (int feeder = 0; feeder < 4; feeder++) {
            Check.due("line(" + feeder + ", 0)", x.line(feeder, 0), 0);
        }
        Check.dueNoIndex(x, "line(4, 0)", () -> x.line(4, 0));
        Check.dueNoIndex(x, "line(-1, 0)", () -> x.line(-1, 0));
    }

    static void feedersAreOnAtFirstWithALoadOf0() {
        DroopBoard x = new DroopBoard();
        for (int feeder = 0; feeder < 4; feeder++) {
            Check.due("line(" + feeder + ", 0)", x.line(feeder, 0), 0);
            Check.due("line(" + feeder + ", 1)", x.line(feeder, 1), 1);
        }
    }

    static void loadIsTheSumOfAllThatAreOn() {
        DroopBoard x = alone(500, 100, 1200);
        int due = 1200;
        for (int feeder = 0; feeder < 4; feeder++) {
            Check.due("count(3)", x.count(3), due);
            x.feeder(feeder, 0);
            due -= 300;
        }
        Check.due("count(3), all off", x.count(3), 0);
        x.feeder(2, 1);
        x.load(2, 1);
        Check.due("count(3), one on", x.count(3), 1);
    }

    static void loadIs0IfTheBoardIsNotAlive() {
        DroopBoard x = alone(500, 100, 1200);
        Check.due("count(3)", x.count(3), 1200);
        x.open(0);
        Check.due("count(3), dead", x.count(3), 0);
        Check.due("line(3, 0)", x.line(3, 0), 300);
        x.close(0);
        Check.due("count(3), alive again", x.count(3), 1200);
    }

    // ---- the frequency (promises 6, 7, 21)

    static void frequencyIsAtMost5300() {
        DroopBoard x = alone(200, 200, 0);
        x.speed(0, 5300);
        dueBoard(x, 5300, 0, 0);
        x.load(0, 1);
        dueBoard(x, 5299, 1, 0);
    }

    static void frequencyIsAtMost5300AlsoIfMoreWouldGiveTheLoad() {
        DroopBoard x = alone(100, 400, 0);
        x.speed(0, 5296);
        dueBoard(x, 5299, 0, 0);
        x.speed(0, 5297);
        dueBoard(x, 5300, 0, 0);
        x.speed(0, 5298);
        dueBoard(x, 5300, 0, 0);
        x.speed(0, 5300);
        dueBoard(x, 5300, 0, 0);
    }

    static void frequencyIs4700WhenItJustGivesTheLoad() {
        dueBoard(alone(200, 200, 299), 4701, 299, 0);
        dueBoard(alone(200, 200, 300), 4700, 300, 0);
    }

    static void frequencyIs4700IfThereIsNone() {
        dueBoard(alone(200, 200, 301), 4700, 300, 1);
        dueBoard(alone(200, 200, 1200), 4700, 300, 900);
    }

    static void frequencyIs4700ForASetOfTheLeastSpeed() {
        DroopBoard x = alone(200, 200, 0);
        x.speed(0, 4700);
        dueBoard(x, 4700, 0, 0);
        x.load(0, 1);
        dueBoard(x, 4700, 0, 1);
    }

    static void frequencyIs0IfTheBoardIsNotAlive() {
        DroopBoard x = new DroopBoard();
        x.load(0, 100);
        dueBoard(x, 0, 0, 0);
        x.run(0);
        dueBoard(x, 0, 0, 0);
    }

    static void frequencyIsTheGreatestOneThatGivesAtLeastTheLoad() {
        // a set of 300 by 200 gives 100 at 67 below its speed and 99 at 66; 102 at 68
        DroopBoard x = alone(300, 200, 100);
        dueBoard(x, 4933, 100, 0);
        x.load(0, 101);
        dueBoard(x, 4932, 101, 0);
        x.load(0, 102);
        dueBoard(x, 4932, 102, 0);
        x.load(0, 99);
        dueBoard(x, 4934, 99, 0);
    }

    static void frequencyIsAboveTheSpeedWhenLessThan1IsRoundedTo0() {
        // -3 * 100 / 400 is rounded to 0, -4 * 100 / 400 is -1
        dueBoard(alone(100, 400, 0), 5003, 0, 0);
        dueBoard(alone(100, 400, 1), 4996, 1, 0);
        dueBoard(alone(100, 400, 2), 4992, 2, 0);
    }

    static void frequencyRoundsWhatEachSetGives() {
        // 3 * 100 / 400 are 0 for each of two sets, not 1 for both
        DroopBoard x = new DroopBoard();
        x.build(0, 100, 400);
        x.build(1, 100, 400);
        Check.closeAll(x, 0, 1);
        x.load(0, 1);
        dueBoard(x, 4996, 1, 0);
        x.load(0, 2);
        dueBoard(x, 4996, 2, 0);
        x.load(0, 3);
        dueBoard(x, 4992, 3, 0);
    }

    static void frequencyIsToldTheSameWayFrom5300To4700() {
        for (int start = 0; start <= 600; start += 60) {
            DroopBoard x = alone(200, 200, 0);
            x.speed(0, 5300);
            for (int load = start; load < start + 60 && load <= 600; load++) {
                x.load(0, load / 2);
                x.load(1, load - load / 2);
                Check.due("count(1) with the load " + load, x.count(1), 5300 - load);
                Check.due("count(2) with the load " + load, x.count(2), 5300 - load);
            }
        }
    }

    // ---- the powers, and what lacks (promises 19, 21)

    static void powersStayIfAllTogetherGiveJustTheLoad() {
        DroopBoard x = alone(200, 200, 0);
        Check.closeAll(x, 1, 2);
        x.load(0, 90);
        // at 20 below: 20, 30, 40
        dueBoard(x, 4980, 90, 0);
        duePowers(x, 20, 30, 40);
    }

    static void powerOfTheLowestSetIsLessByWhatIsMore() {
        DroopBoard x = alone(200, 200, 0);
        Check.closeAll(x, 1, 2);
        x.load(0, 89);
        dueBoard(x, 4980, 89, 0);
        duePowers(x, 19, 30, 40);
        x.load(0, 87);
        duePowers(x, 17, 30, 40);
        x.load(0, 86);
        // at 19 below: 19, 28, 38, which are 85 and too little
        duePowers(x, 16, 30, 40);
        x.load(0, 85);
        duePowers(x, 19, 28, 38);
    }

    static void powerOfTheLowestSetOfThoseWithAClosedBreaker() {
        DroopBoard x = new DroopBoard();
        x.run(0);
        Check.closeAll(x, 1, 2);
        x.load(0, 69);
        // at 20 below: 30 and 40
        duePowers(x, 0, 29, 40);
        x.open(1);
        // at 35 below: 70
        duePowers(x, 0, 0, 69);
        x.set(2, 35);
        x.close(0);
        // at 23 below: 23 and 46
        duePowers(x, 23, 0, 46);
        x.load(0, 68);
        duePowers(x, 22, 0, 46);
    }

    static void powerOfTheLowestSetAlsoIfAnotherHasLess() {
        DroopBoard x = new DroopBoard();
        x.build(0, 500, 100);
        x.build(2, 100, 400);
        Check.closeAll(x, 0, 2);
        x.load(0, 7);
        // at 2 below: 10 and 0
        duePowers(x, 7, 0, 0);
        x.load(0, 18);
        // at 4 below: 20 and 1
        duePowers(x, 17, 0, 1);
    }

    static void powerOfTheLowestSetFallsBelow0() {
        DroopBoard x = new DroopBoard();
        x.build(0, 100, 400);
        x.build(1, 500, 100);
        Check.closeAll(x, 0, 1);
        x.load(0, 1);
        dueBoard(x, 4999, 1, 0);
        duePowers(x, -4, 5, 0);
    }

    static void powerIsWholeIfTheBoardLacks() {
        DroopBoard x = alone(200, 200, 301);
        duePowers(x, 300, 0, 0);
    }

    static void powerOfAllOtherSetsIs0() {
        DroopBoard x = alone(200, 200, 100);
        x.run(1);
        x.speed(1, 5300);
        x.speed(2, 5300);
        duePowers(x, 100, 0, 0);
        x.open(0);
        duePowers(x, 0, 0, 0);
    }

    static void powerBelow0IsRoundedTowards0() {
        DroopBoard x = new DroopBoard();
        x.build(1, 100, 400);
        Check.closeAll(x, 0, 1);
        x.speed(1, 4993);
        // -7 * 100 / 400 would be -1 at 5000; at 4999 set 0 gives 1, set 1 -6 * 100 / 400, -1 too
        dueBoard(x, 4999, 0, 0);
        duePowers(x, 1, -1, 0);
        x.speed(1, 4997);
        dueBoard(x, 5000, 0, 0);
        duePowers(x, 0, 0, 0);
    }

    static void lackIs0UntilThePowersAreLessThanTheLoad() {
        Check.due("count(5)", alone(100, 100, 299).count(5), 0);
        Check.due("count(5)", alone(100, 100, 300).count(5), 0);
        Check.due("count(5)", alone(100, 100, 301).count(5), 1);
        Check.due("count(5)", alone(100, 400, 75).count(5), 0);
        Check.due("count(5)", alone(100, 400, 76).count(5), 1);
    }

    static void lackIsWhatAllSetsTogetherDoNotGive() {
        DroopBoard x = alone(200, 200, 0);
        Check.closeAll(x, 1);
        takeAll(x, 750);
        dueBoard(x, 4700, 750, 0);
        takeAll(x, 751);
        dueBoard(x, 4700, 750, 1);
        duePowers(x, 300, 450, 0);
    }

    // ---- closing (promises 6, 19)

    /** Set 0 closed at 5000, and set 1 running. */
    private static DroopBoard ready() {
        DroopBoard x = alone(200, 200, 0);
        x.run(1);
        return x;
    }

    private static void dueLamps(int phase, int lamps) {
        DroopBoard x = ready();
        Check.reachPhase(x, 1, phase);
        Check.due("the lamps at " + phase, x.diesel(1, 7), lamps);
    }

    static void phaseIsAtMost999() {
        DroopBoard x = ready();
        Check.reachPhase(x, 1, 998);
        x.speed(1, 5001);
        x.pass(1);
        Check.due("the phase", x.diesel(1, 6), 999);
        x.pass(1);
        Check.due("the phase behind 999", x.diesel(1, 6), 0);
        x.pass(1);
        Check.due("the phase", x.diesel(1, 6), 1);
    }

    static void phaseIsAtLeast0() {
        DroopBoard x = ready();
        x.speed(1, 4999);
        x.pass(1);
        Check.due("the phase before 0", x.diesel(1, 6), 999);
        x.speed(1, 5001);
        x.pass(1);
        Check.due("the phase", x.diesel(1, 6), 0);
        x.speed(1, 4999);
        x.pass(2);
        Check.due("the phase", x.diesel(1, 6), 998);
    }

    static void phaseOfAllOtherSetsIs0() {
        DroopBoard x = ready();
        Check.reachPhase(x, 1, 400);
        Check.due("the phase of a closed set", x.diesel(0, 6), 0);
        Check.due("the phase of a set that stands", x.diesel(2, 6), 0);
        x.halt(1);
        Check.due("the phase of a set that stopped", x.diesel(1, 6), 0);
        Check.due("its lamps", x.diesel(1, 7), 0);
    }

    static void phaseIs0WhenTheBreakerCloses() {
        DroopBoard x = ready();
        Check.reachPhase(x, 1, 30);
        x.close(1);
        Check.due("the phase", x.diesel(1, 6), 0);
        Check.due("the lamps", x.diesel(1, 7), 0);
    }

    static void lampsAreTheLesserOneOfThePhaseAndItsRest() {
        dueLamps(0, 0);
        dueLamps(1, 1);
        dueLamps(499, 499);
        dueLamps(500, 500);
        dueLamps(501, 499);
        dueLamps(999, 1);
    }

    private static void dueReason(DroopBoard x, int set, int due) {
        Check.due("diesel(" + set + ", 12)", x.diesel(set, 12), due);
        if (due == 0) {
            Check.due("closeIn(" + set + ")", x.closeIn(set), 0);
            int closed = x.count(7);
            x.close(set);
            Check.due("count(7)", x.count(7), closed + 1);
            x.undo();
        } else {
            Check.dueNoState(x, "close(" + set + ")", () -> x.close(set));
        }
    }

    static void reason1ItDoesNotRun() {
        DroopBoard x = new DroopBoard();
        dueReason(x, 0, 1);
        x.run(0);
        dueReason(x, 0, 0);
        x.halt(0);
        dueReason(x, 0, 1);
    }

    static void reason1GoesBefore3() {
        DroopBoard x = ready();
        x.speed(2, 5300);
        dueReason(x, 2, 1);
        x.run(2);
        dueReason(x, 2, 3);
    }

    static void reason2ItIsClosed() {
        DroopBoard x = ready();
        dueReason(x, 0, 2);
        dueReason(x, 1, 0);
    }

    static void reason2GoesBefore3() {
        DroopBoard x = ready();
        x.load(0, 200);
        x.set(2, 0);
        dueReason(x, 0, 2);
        dueReason(x, 1, 3);
    }

    static void reason3TheSlipWithoutItsSignIsAboveSetting2() {
        int[] widest = {0, 1, 10, 50};
        for (int most : widest) {
            DroopBoard x = ready();
            x.set(2, most);
            x.speed(1, 5000 + most);
            dueReason(x, 1, 0);
            x.speed(1, 5000 - most);
            dueReason(x, 1, 0);
            x.speed(1, 5000 + most + 1);
            dueReason(x, 1, 3);
            x.speed(1, 5000 - most - 1);
            dueReason(x, 1, 3);
        }
    }

    static void reason3IsTakenFromTheFrequencyOfTheBoard() {
        DroopBoard x = ready();
        x.load(0, 100);
        x.speed(1, 4910);
        dueReason(x, 1, 0);
        x.speed(1, 4911);
        dueReason(x, 1, 3);
        x.speed(1, 4890);
        dueReason(x, 1, 0);
        x.speed(1, 4889);
        dueReason(x, 1, 3);
    }

    static void reason3GoesBefore4() {
        DroopBoard x = ready();
        Check.reachPhase(x, 1, 500);
        x.speed(1, 5011);
        dueReason(x, 1, 3);
        x.speed(1, 5010);
        dueReason(x, 1, 4);
    }

    static void reason4TheLampsAreBrighterThanSetting3() {
        int[] brightest = {0, 1, 30, 200};
        for (int most : brightest) {
            DroopBoard x = ready();
            x.set(3, most);
            Check.reachPhase(x, 1, most);
            dueReason(x, 1, 0);
            x.speed(1, 5001);
            x.pass(1);
            dueReason(x, 1, 4);
        }
    }

    static void reason4TheLampsBefore1000AreBrighterThanSetting3() {
        int[] brightest = {1, 30, 200};
        for (int most : brightest) {
            DroopBoard x = ready();
            x.set(3, most);
            Check.reachPhase(x, 1, 1000 - most);
            dueReason(x, 1, 0);
            x.speed(1, 4999);
            x.pass(1);
            dueReason(x, 1, 4);
        }
    }

    static void reasons3And4NeedABoardThatIsAlive() {
        DroopBoard x = ready();
        Check.reachPhase(x, 1, 500);
        x.speed(1, 5300);
        dueReason(x, 1, 3);
        x.open(0);
        dueReason(x, 1, 0);
        x.set(2, 0);
        x.set(3, 0);
        dueReason(x, 1, 0);
        dueReason(x, 0, 0);
        dueReason(x, 2, 1);
    }
}
