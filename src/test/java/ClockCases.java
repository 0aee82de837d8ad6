/** Clocks: what the terms say of them, setClock and ticks. */
final class ClockCases {
    private ClockCases() {
    }

    private static void dueTicks(Tickstation chip, int one, int two, int three) {
        Bench.due("ticks(1)", chip.ticks(1), one);
        Bench.due("ticks(2)", chip.ticks(2), two);
        Bench.due("ticks(3)", chip.ticks(3), three);
    }

    private static Tickstation withDivider(int divider) {
        Tickstation chip = new Tickstation();
        chip.setClock(1, 0, divider, true);
        return chip;
    }

    // ---- which clocks there are

    @Says(promise = 0, words = "There are the clocks 0 to 3.")
    static void eachOfFourClocksTicks(Way way) {
        Tickstation chip = new Tickstation();
        way.go(chip, 1);
        for (int clock = 0; clock < 4; clock++) {
            Bench.due("ticks", chip.ticks(clock), 1);
        }
    }

    @Says(promise = 0, words = "The clock 0 ticks in each beat.")
    static void clock0TicksInEachBeat(Way way) {
        Tickstation chip = new Tickstation();
        way.go(chip, 1);
        Bench.due("ticks(0)", chip.ticks(0), 1);
        way.go(chip, 4999);
        Bench.due("ticks(0)", chip.ticks(0), 5000);
    }

    @Says(promise = 0, words = "The clock 0 ticks in each beat.")
    static void clock0TicksInTheBeatOfAReset(Way way) {
        Tickstation chip = new Tickstation();
        chip.setWatchdog(0, 0, 3);
        way.go(chip, 9);
        Bench.due("resets", chip.resets(), 3);
        Bench.due("ticks(0)", chip.ticks(0), 9);
    }

    // ---- as at first

    @Says(promise = 0, words = "a source, a clock with a lower number, 0 at first")
    static void sourceIs0AtFirst(Way way) {
        Tickstation chip = new Tickstation();
        chip.setClock(1, 0, 5, false);
        chip.setClock(2, 0, 7, true);
        way.go(chip, 6);
        dueTicks(chip, 0, 0, 6);
        Tickstation other = withDivider(5);
        way.go(other, 6);
        dueTicks(other, 1, 6, 6);
    }

    @Says(promise = 0, words = "a divider, 1 at first")
    static void dividerIs1AtFirst(Way way) {
        Tickstation chip = new Tickstation();
        way.go(chip, 1);
        dueTicks(chip, 1, 1, 1);
        way.go(chip, 1);
        dueTicks(chip, 2, 2, 2);
    }

    @Says(promise = 0, words = "is on or off, on at first")
    static void eachClockIsOnAtFirst(Way way) {
        Tickstation chip = new Tickstation();
        way.go(chip, 3);
        dueTicks(chip, 3, 3, 3);
    }

    // ---- counting

    @Says(promise = 0, words = "it counts ticks of its source, from 0 on, as long as it is on")
    static void countsFrom0(Way way) {
        Tickstation chip = withDivider(3);
        way.go(chip, 2);
        Bench.due("one tick too few", chip.ticks(1), 0);
        way.go(chip, 1);
        Bench.due("as many ticks as the divider", chip.ticks(1), 1);
        way.go(chip, 2);
        Bench.due("one tick too few for the second", chip.ticks(1), 1);
        way.go(chip, 1);
        Bench.due("twice as many ticks", chip.ticks(1), 2);
    }

    @Says(promise = 0, words = "as long as it is on")
    static void countsNothingWhileItIsOff(Way way) {
        Tickstation chip = withDivider(3);
        way.go(chip, 2);
        chip.setClock(1, 0, 3, false);
        way.go(chip, 100);
        Bench.due("while it is off", chip.ticks(1), 0);
        chip.setClock(1, 0, 3, true);
        way.go(chip, 1);
        Bench.due("the third tick that it counted", chip.ticks(1), 1);
    }

    @Says(promise = 0, words = "it counts ticks of its source")
    static void countsNothingOfASourceThatIsOff(Way way) {
        Tickstation chip = new Tickstation();
        chip.setClock(1, 0, 1, false);
        chip.setClock(2, 1, 1, true);
        chip.setClock(3, 2, 1, true);
        way.go(chip, 50);
        dueTicks(chip, 0, 0, 0);
        chip.setClock(1, 0, 1, true);
        way.go(chip, 2);
        dueTicks(chip, 2, 2, 2);
    }

    @Says(promise = 0, words = "it ticks in the same beat")
    static void aRowOfClocksTicksInTheSameBeat(Way way) {
        Tickstation chip = withDivider(2);
        chip.setClock(2, 1, 2, true);
        chip.setClock(3, 2, 2, true);
        way.go(chip, 7);
        dueTicks(chip, 3, 1, 0);
        way.go(chip, 1);
        dueTicks(chip, 4, 2, 1);
    }

    @Says(promise = 0, words = "it ticks in the same beat")
    static void theFarthestRowOfClocks(Way way) {
        Tickstation chip = withDivider(64);
        chip.setClock(2, 1, 64, true);
        chip.setClock(3, 2, 2, true);
        way.go(chip, 8191);
        dueTicks(chip, 127, 1, 0);
        way.go(chip, 1);
        dueTicks(chip, 128, 2, 1);
    }

    @Says(promise = 0, words = "when its count is at least its divider as it counts")
    static void aCountBeyondTheDividerWaitsForTheNextTick(Way way) {
        Tickstation chip = withDivider(10);
        way.go(chip, 9);
        chip.setClock(1, 0, 4, true);
        Bench.due("as it is set", chip.ticks(1), 0);
        way.go(chip, 1);
        Bench.due("as it counts", chip.ticks(1), 1);
    }

    @Says(promise = 0, words = "when its count is at least its divider as it counts")
    static void aCountThatIsTheDividerAsItIsSet(Way way) {
        Tickstation chip = withDivider(10);
        way.go(chip, 4);
        chip.setClock(1, 0, 4, true);
        way.go(chip, 1);
        Bench.due("the fifth", chip.ticks(1), 1);
        way.go(chip, 3);
        Bench.due("three more", chip.ticks(1), 1);
        way.go(chip, 1);
        Bench.due("four more", chip.ticks(1), 2);
    }

    @Says(promise = 0, words = "and its count is 0.")
    static void nothingIsLeftOfACountBeyondTheDivider(Way way) {
        Tickstation chip = withDivider(64);
        way.go(chip, 63);
        chip.setClock(1, 0, 5, true);
        way.go(chip, 5);
        Bench.due("one, and four of the next five", chip.ticks(1), 1);
        way.go(chip, 1);
        Bench.due("one, and five", chip.ticks(1), 2);
    }

    // ---- asleep at the depth 2

    @Says(promise = 0, words = "the clocks 1 to 3 neither count nor tick")
    static void clocksTickNotInDeepSleep(Way way) {
        Tickstation chip = Bench.asleep(way, 2);
        dueTicks(chip, 1, 1, 1);
        way.go(chip, 100);
        dueTicks(chip, 1, 1, 1);
        Bench.due("the clock 0 does", chip.ticks(0), 101);
    }

    @Says(promise = 0, words = "the clocks 1 to 3 neither count nor tick")
    static void clocksCountNotInDeepSleep(Way way) {
        Tickstation chip = withDivider(3);
        chip.setSleep(2);
        way.go(chip, 50);
        chip.setSleep(0);
        way.go(chip, 1);
        Bench.due("one of the beat that fell asleep, and one", chip.ticks(1), 0);
        way.go(chip, 1);
        Bench.due("and one more", chip.ticks(1), 1);
    }

    @Says(promise = 0, words = "While the chip is asleep at the depth 2")
    static void clocksTickAtTheDepth1(Way way) {
        Tickstation chip = Bench.asleep(way, 1);
        way.go(chip, 9);
        dueTicks(chip, 10, 10, 10);
    }

    @Says(promise = 0, words = "While the chip is asleep at the depth 2")
    static void clocksTickAtTheDepth2UntilItIsAsleep(Way way) {
        Tickstation chip = Bench.withLine(0, 7, 20);
        chip.setSleep(2);
        chip.request(0);
        way.go(chip, 24);
        dueTicks(chip, 24, 24, 24);
    }

    @Says(promise = 0, words = "While the chip is asleep at the depth 2")
    static void clocksTickFromTheFirstBeatOfWakingOn(Way way) {
        Tickstation chip = Bench.withLine(0, 7, 1);
        chip.setSleep(2);
        way.go(chip, 1);
        chip.request(0);
        way.go(chip, 1);
        dueTicks(chip, 1, 1, 1);
        way.go(chip, 6);
        dueTicks(chip, 7, 7, 7);
    }

    @Says(promise = 0, words = "While the chip is asleep at the depth 2")
    static void aTimerOfAStoppedClockWaits(Way way) {
        Tickstation chip = new Tickstation();
        chip.setTimer(0, 1, 10, 10, 'r');
        chip.setTimer(1, 0, 10, 10, 'r');
        chip.start(0, true);
        chip.start(1, true);
        chip.setSleep(2);
        way.go(chip, 9);
        Bench.due("on the clock 1", chip.count(0), 1);
        Bench.due("on the clock 0", chip.count(1), 9);
    }

    // ---- setClock

    @Says(promise = 2, words = "`clock`: the clock, 1 to 3")
    static void clock1IsSet(Way way) {
        Tickstation chip = new Tickstation();
        chip.setClock(1, 0, 2, true);
        way.go(chip, 4);
        dueTicks(chip, 2, 4, 4);
    }

    @Says(promise = 2, words = "`clock`: the clock, 1 to 3")
    static void clock3IsSet(Way way) {
        Tickstation chip = new Tickstation();
        chip.setClock(3, 0, 2, true);
        way.go(chip, 4);
        dueTicks(chip, 4, 4, 2);
    }

    @Says(promise = 2, words = "Throws `IndexOutOfBoundsException` if there is no such clock")
    static void clock0IsNotSet() {
        Bench.refused(Bench.NO_INDEX, chip -> chip.setClock(0, 0, 9, false));
    }

    @Says(promise = 2, words = "Throws `IndexOutOfBoundsException` if there is no such clock")
    static void clock4IsNotSet() {
        Bench.refused(Bench.NO_INDEX, chip -> chip.setClock(4, 0, 9, false));
    }

    @Says(promise = 2, words = "Throws `IndexOutOfBoundsException` if there is no such clock")
    static void clockBelow0IsNotSet() {
        Bench.refused(Bench.NO_INDEX, chip -> chip.setClock(-1, 0, 9, false));
        Bench.refused(Bench.NO_INDEX, chip -> chip.setClock(Integer.MIN_VALUE, 0, 9, false));
    }

    @Says(promise = 2, words = "Throws `IndexOutOfBoundsException` if there is no such clock")
    static void clockFarAbove3IsNotSet() {
        Bench.refused(Bench.NO_INDEX, chip -> chip.setClock(Integer.MAX_VALUE, 0, 9, false));
    }

    @Says(promise = 2, words = "`source`: its source")
    static void theHighestSourceOfTheHighestClock(Way way) {
        Tickstation chip = new Tickstation();
        chip.setClock(2, 0, 2, true);
        chip.setClock(3, 2, 2, true);
        way.go(chip, 8);
        dueTicks(chip, 8, 4, 2);
    }

    @Says(promise = 2, words = "`source`: its source")
    static void theLowestSourceOfTheHighestClock(Way way) {
        Tickstation chip = new Tickstation();
        chip.setClock(2, 0, 2, false);
        chip.setClock(1, 0, 2, false);
        chip.setClock(3, 2, 1, true);
        chip.setClock(3, 0, 1, true);
        way.go(chip, 8);
        dueTicks(chip, 0, 0, 8);
    }

    @Says(promise = 2, words = "or the source is no clock with a lower number")
    static void aClockIsNoSourceOfItself() {
        Bench.refused(Bench.NO_INDEX, chip -> chip.setClock(1, 1, 9, false));
        Bench.refused(Bench.NO_INDEX, chip -> chip.setClock(2, 2, 9, false));
        Bench.refused(Bench.NO_INDEX, chip -> chip.setClock(3, 3, 9, false));
    }

    @Says(promise = 2, words = "or the source is no clock with a lower number")
    static void aHigherClockIsNoSource() {
        Bench.refused(Bench.NO_INDEX, chip -> chip.setClock(1, 2, 9, false));
        Bench.refused(Bench.NO_INDEX, chip -> chip.setClock(2, 3, 9, false));
        Bench.refused(Bench.NO_INDEX, chip -> chip.setClock(3, 4, 9, false));
        Bench.refused(Bench.NO_INDEX, chip -> chip.setClock(3, Integer.MAX_VALUE, 9, false));
    }

    @Says(promise = 2, words = "or the source is no clock with a lower number")
    static void aNumberBelow0IsNoSource() {
        Bench.refused(Bench.NO_INDEX, chip -> chip.setClock(1, -1, 9, false));
        Bench.refused(Bench.NO_INDEX, chip -> chip.setClock(3, -1, 9, false));
        Bench.refused(Bench.NO_INDEX, chip -> chip.setClock(3, Integer.MIN_VALUE, 9, false));
    }

    @Says(promise = 2, words = "`divider`: its divider, 1 to 64")
    static void divider1(Way way) {
        Tickstation chip = withDivider(2);
        Bench.due("setClock", chip.setClock(1, 0, 1, true), 2);
        way.go(chip, 3);
        Bench.due("ticks(1)", chip.ticks(1), 3);
    }

    @Says(promise = 2, words = "`divider`: its divider, 1 to 64")
    static void divider64(Way way) {
        Tickstation chip = withDivider(64);
        way.go(chip, 63);
        Bench.due("ticks(1)", chip.ticks(1), 0);
        way.go(chip, 1);
        Bench.due("ticks(1)", chip.ticks(1), 1);
        Bench.due("setClock", chip.setClock(1, 0, 64, true), 64);
    }

    @Says(promise = 2, words = "Throws `IllegalArgumentException` if the divider is out of range")
    static void divider0IsRefused() {
        Bench.refused(Bench.BAD, chip -> chip.setClock(1, 0, 0, false));
        Bench.refused(Bench.BAD, chip -> chip.setClock(3, 2, 0, false));
    }

    @Says(promise = 2, words = "Throws `IllegalArgumentException` if the divider is out of range")
    static void divider65IsRefused() {
        Bench.refused(Bench.BAD, chip -> chip.setClock(1, 0, 65, false));
        Bench.refused(Bench.BAD, chip -> chip.setClock(3, 2, 65, false));
    }

    @Says(promise = 2, words = "Throws `IllegalArgumentException` if the divider is out of range")
    static void dividersFarOutAreRefused() {
        Bench.refused(Bench.BAD, chip -> chip.setClock(2, 1, -1, false));
        Bench.refused(Bench.BAD, chip -> chip.setClock(2, 1, Integer.MIN_VALUE, false));
        Bench.refused(Bench.BAD, chip -> chip.setClock(2, 1, Integer.MAX_VALUE, false));
    }

    @Says(promise = 0, words = "the exception that is listed first is thrown")
    static void noSuchClockComesBeforeTheDivider() {
        Bench.refused(Bench.NO_INDEX, chip -> chip.setClock(0, 0, 0, false));
        Bench.refused(Bench.NO_INDEX, chip -> chip.setClock(4, 0, 65, false));
    }

    @Says(promise = 0, words = "the exception that is listed first is thrown")
    static void noSuchSourceComesBeforeTheDivider() {
        Bench.refused(Bench.NO_INDEX, chip -> chip.setClock(2, 2, 0, false));
        Bench.refused(Bench.NO_INDEX, chip -> chip.setClock(2, -1, 65, false));
    }

    @Says(promise = 2, words = "`isOn`: true if it is on")
    static void offAndOnAgain(Way way) {
        Tickstation chip = new Tickstation();
        chip.setClock(2, 0, 1, false);
        way.go(chip, 3);
        dueTicks(chip, 3, 0, 3);
        chip.setClock(2, 0, 1, true);
        way.go(chip, 3);
        dueTicks(chip, 6, 3, 6);
    }

    @Says(promise = 2, words = "Sets a clock; its count stays.")
    static void theCountStaysForAnotherSource(Way way) {
        Tickstation chip = new Tickstation();
        chip.setClock(1, 0, 10, true);
        chip.setClock(2, 0, 5, true);
        way.go(chip, 4);
        chip.setClock(2, 1, 5, true);
        way.go(chip, 5);
        Bench.due("its source has not ticked", chip.ticks(2), 0);
        way.go(chip, 1);
        Bench.due("the fifth tick that it counted", chip.ticks(2), 1);
    }

    @Says(promise = 2, words = "Sets a clock; its count stays.")
    static void theCountStaysForAGreaterDivider(Way way) {
        Tickstation chip = withDivider(5);
        way.go(chip, 4);
        chip.setClock(1, 0, 6, true);
        way.go(chip, 1);
        Bench.due("five of six", chip.ticks(1), 0);
        way.go(chip, 1);
        Bench.due("six of six", chip.ticks(1), 1);
    }

    @Says(promise = 2, words = "Returns the divider before.")
    static void answersTheDividerBefore() {
        Tickstation chip = new Tickstation();
        Bench.due("as at first", chip.setClock(2, 1, 17, false), 1);
        Bench.due("while it is off", chip.setClock(2, 0, 64, true), 17);
        Bench.due("the greatest", chip.setClock(2, 0, 1, true), 64);
        Bench.due("another clock", chip.setClock(3, 0, 2, true), 1);
    }

    // ---- ticks

    @Says(promise = 17, words = "Returns how often a clock has ticked.")
    static void noTicksAtTheTime0() {
        for (int clock = 0; clock < 4; clock++) {
            Bench.due("ticks", new Tickstation().ticks(clock), 0);
        }
    }

    @Says(promise = 17, words = "Returns the number of ticks.")
    static void ticksAreNotTheCount(Way way) {
        Tickstation chip = withDivider(4);
        way.go(chip, 11);
        Bench.due("ticks(1)", chip.ticks(1), 2);
    }

    @Says(promise = 17, words = "`clock`: the clock, 0 to 3")
    static void ticksOfTheFirstAndTheLastClock(Way way) {
        Tickstation chip = new Tickstation();
        chip.setClock(3, 0, 5, true);
        way.go(chip, 10);
        Bench.due("ticks(0)", chip.ticks(0), 10);
        Bench.due("ticks(3)", chip.ticks(3), 2);
    }

    @Says(promise = 17, words = "Throws `IndexOutOfBoundsException` if there is no such clock")
    static void ticksOfNoClockBelow0() {
        Bench.refused(Bench.NO_INDEX, chip -> chip.ticks(-1));
        Bench.refused(Bench.NO_INDEX, chip -> chip.ticks(Integer.MIN_VALUE));
    }

    @Says(promise = 17, words = "Throws `IndexOutOfBoundsException` if there is no such clock")
    static void ticksOfNoClockAbove3() {
        Bench.refused(Bench.NO_INDEX, chip -> chip.ticks(4));
        Bench.refused(Bench.NO_INDEX, chip -> chip.ticks(Integer.MAX_VALUE));
    }
}
