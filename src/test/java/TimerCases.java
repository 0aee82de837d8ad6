/** Timers: what the terms say of them, setTimer, link, start, count and isRunning. */
final class TimerCases {
    private TimerCases() {
    }

    private static void dueCounts(Tickstation chip, int... counts) {
        for (int timer = 0; timer < counts.length; timer++) {
            Bench.due("count(" + timer + ")", chip.count(timer), counts[timer]);
        }
    }

    private static Tickstation firesOnce(int timer, int period, int compare) {
        Tickstation chip = new Tickstation();
        chip.setTimer(timer, 0, period, compare, 'o');
        chip.start(timer, true);
        return chip;
    }

    // ---- as at first

    @Says(promise = 0, words = "There are the timers 0 to 3.")
    static void eachOfFourTimersRuns(Way way) {
        Tickstation chip = new Tickstation();
        for (int timer = 0; timer < 4; timer++) {
            chip.start(timer, true);
        }
        way.go(chip, 3);
        dueCounts(chip, 3, 3, 3, 3);
    }

    @Says(promise = 0, words = "A timer has a clock, 0 at first")
    static void clockIs0AtFirst(Way way) {
        Tickstation chip = new Tickstation();
        for (int clock = 1; clock < 4; clock++) {
            chip.setClock(clock, 0, 1, false);
        }
        for (int timer = 0; timer < 4; timer++) {
            chip.start(timer, true);
        }
        way.go(chip, 2);
        dueCounts(chip, 2, 2, 2, 2);
    }

    @Says(promise = 0, words = "a period and a compare number, both 10 at first")
    static void periodIs10AtFirst(Way way) {
        Tickstation chip = new Tickstation();
        chip.start(0, true);
        way.go(chip, 9);
        Bench.due("overflowed", chip.isRequested(4), false);
        dueCounts(chip, 9);
        way.go(chip, 1);
        Bench.due("overflowed", chip.isRequested(4), true);
        dueCounts(chip, 0);
    }

    @Says(promise = 0, words = "a period and a compare number, both 10 at first")
    static void compareNumberIs10AtFirst(Way way) {
        Tickstation chip = new Tickstation();
        chip.start(0, true);
        way.go(chip, 9);
        Bench.due("compared", chip.isRequested(0), false);
        way.go(chip, 1);
        Bench.due("compared", chip.isRequested(0), true);
    }

    @Says(promise = 0, words = "is repeating 'r', as at first, or fires once 'o'")
    static void repeatsAtFirst(Way way) {
        Tickstation chip = new Tickstation();
        chip.start(2, true);
        way.go(chip, 25);
        Bench.due("isRunning", chip.isRunning(2), true);
        Bench.due("count", chip.count(2), 5);
    }

    @Says(promise = 0, words = "runs or not, not at first")
    static void runsNotAtFirst(Way way) {
        Tickstation chip = new Tickstation();
        way.go(chip, 30);
        for (int timer = 0; timer < 4; timer++) {
            Bench.due("isRunning", chip.isRunning(timer), false);
            Bench.due("count", chip.count(timer), 0);
            Bench.due("overflowed", chip.isRequested(4 + timer), false);
        }
    }

    @Says(promise = 0, words = "and has a count, 0 at first.")
    static void countIs0AtFirst(Way way) {
        Tickstation chip = new Tickstation();
        chip.start(1, true);
        Bench.due("count", chip.count(1), 0);
        way.go(chip, 1);
        Bench.due("count", chip.count(1), 1);
    }

    // ---- counting

    @Says(promise = 0, words = "When it runs and counts, its count becomes 1 greater")
    static void countsEachTickOfItsClock(Way way) {
        Tickstation chip = new Tickstation();
        chip.setClock(2, 0, 3, true);
        chip.setTimer(1, 2, 20, 20, 'r');
        chip.start(1, true);
        way.go(chip, 2);
        Bench.due("ahead of the tick", chip.count(1), 0);
        way.go(chip, 1);
        Bench.due("in the beat of the tick", chip.count(1), 1);
        way.go(chip, 6);
        Bench.due("two ticks more", chip.count(1), 3);
    }

    @Says(promise = 0, words = "When it runs and counts")
    static void oneThatDoesNotRunCountsNothing(Way way) {
        Tickstation chip = Bench.withTimer(0, 10, 5);
        way.go(chip, 4);
        chip.start(0, false);
        way.go(chip, 100);
        Bench.due("count", chip.count(0), 4);
        Bench.due("compared", chip.isRequested(0), false);
    }

    @Says(promise = 0, words = "if it is its compare number then, it compares")
    static void comparesAt1(Way way) {
        Tickstation chip = Bench.withTimer(0, 10, 1);
        way.go(chip, 1);
        Bench.due("compared", chip.isRequested(0), true);
        Bench.due("overflowed", chip.isRequested(4), false);
    }

    @Says(promise = 0, words = "if it is its compare number then, it compares")
    static void comparesOneBelowThePeriod(Way way) {
        Tickstation chip = Bench.withTimer(0, 10, 9);
        way.go(chip, 8);
        Bench.due("compared", chip.isRequested(0), false);
        way.go(chip, 1);
        Bench.due("compared", chip.isRequested(0), true);
        Bench.due("overflowed", chip.isRequested(4), false);
        Bench.due("count", chip.count(0), 9);
    }

    @Says(promise = 0, words = "if it is its compare number then, it compares")
    static void comparesAtThePeriodInTheBeatOfTheOverflow(Way way) {
        Tickstation chip = Bench.withTimer(0, 10, 10);
        chip.setPin(0, 0, 't');
        way.go(chip, 10);
        Bench.due("compared", chip.isRequested(0), true);
        Bench.due("overflowed", chip.isRequested(4), true);
        Bench.due("edges", chip.edges(), 1);
        Bench.due("count", chip.count(0), 0);
    }

    @Says(promise = 0, words = "if it is its compare number then, it compares")
    static void comparesNeverAboveThePeriod(Way way) {
        Tickstation chip = Bench.withTimer(0, 10, 11);
        way.go(chip, 100);
        Bench.due("compared", chip.isRequested(0), false);
        Bench.due("overflowed", chip.isRequested(4), true);
    }

    @Says(promise = 0, words = "if it is its compare number then, it compares")
    static void comparesNotAtACountThatItHasAlready(Way way) {
        Tickstation chip = Bench.withTimer(0, 10, 200);
        way.go(chip, 6);
        chip.setTimer(0, 0, 10, 6, 'r');
        Bench.due("as it is set", chip.isRequested(0), false);
        way.go(chip, 9);
        Bench.due("one beat early in the next round", chip.isRequested(0), false);
        way.go(chip, 1);
        Bench.due("in the next round", chip.isRequested(0), true);
    }

    @Says(promise = 0, words = "if it is its compare number then, it compares")
    static void comparesNotBelowTheCount(Way way) {
        Tickstation chip = Bench.withTimer(0, 10, 200);
        way.go(chip, 6);
        chip.setTimer(0, 0, 10, 5, 'r');
        way.go(chip, 4);
        Bench.due("in this round", chip.isRequested(0), false);
        way.go(chip, 5);
        Bench.due("in the next round", chip.isRequested(0), true);
    }

    @Says(promise = 0, words = "if it is its compare number then, it compares")
    static void comparesAtTheNextCount(Way way) {
        Tickstation chip = Bench.withTimer(0, 10, 200);
        way.go(chip, 6);
        chip.setTimer(0, 0, 10, 7, 'r');
        way.go(chip, 1);
        Bench.due("compared", chip.isRequested(0), true);
    }

    @Says(promise = 0, words = "if it is at least its period then, it overflows")
    static void comparesBeyondThePeriodAtACountThatStayed(Way way) {
        Tickstation chip = Bench.withTimer(0, 20, 200);
        way.go(chip, 9);
        chip.setTimer(0, 0, 4, 10, 'r');
        way.go(chip, 1);
        Bench.due("compared", chip.isRequested(0), true);
        Bench.due("overflowed", chip.isRequested(4), true);
        Bench.due("count", chip.count(0), 0);
    }

    @Says(promise = 0, words = "if it is at least its period then, it overflows")
    static void overflowsAtThePeriodAndNotAheadOfIt(Way way) {
        Tickstation chip = Bench.withTimer(3, 7, 200);
        way.go(chip, 6);
        Bench.due("overflowed", chip.isRequested(7), false);
        Bench.due("count", chip.count(3), 6);
        way.go(chip, 1);
        Bench.due("overflowed", chip.isRequested(7), true);
        Bench.due("count", chip.count(3), 0);
    }

    @Says(promise = 0, words = "if it is at least its period then, it overflows")
    static void overflowsAtTheNextCountIfThePeriodIsBelowTheCount(Way way) {
        Tickstation chip = Bench.withTimer(0, 20, 200);
        way.go(chip, 9);
        chip.setTimer(0, 0, 4, 200, 'r');
        Bench.due("as it is set", chip.isRequested(4), false);
        way.go(chip, 1);
        Bench.due("overflowed", chip.isRequested(4), true);
        way.go(chip, 3);
        Bench.due("count", chip.count(0), 3);
        way.go(chip, 1);
        Bench.due("count", chip.count(0), 0);
    }

    @Says(promise = 0, words = "if it is at least its period then, it overflows")
    static void overflowsAtTheNextCountIfThePeriodIsTheCount(Way way) {
        Tickstation chip = Bench.withTimer(0, 20, 200);
        way.go(chip, 9);
        chip.setTimer(0, 0, 9, 200, 'r');
        way.go(chip, 1);
        Bench.due("overflowed", chip.isRequested(4), true);
        Bench.due("count", chip.count(0), 0);
    }

    @Says(promise = 0, words = "its count becomes 0, and one that fires once stops")
    static void oneThatRepeatsRunsOn(Way way) {
        Tickstation chip = Bench.withTimer(0, 5, 2);
        way.go(chip, 5);
        Bench.due("isRunning", chip.isRunning(0), true);
        Bench.due("count", chip.count(0), 0);
        way.go(chip, 1);
        Bench.due("count", chip.count(0), 1);
    }

    @Says(promise = 0, words = "its count becomes 0, and one that fires once stops")
    static void oneThatFiresOnceStops(Way way) {
        Tickstation chip = firesOnce(0, 5, 2);
        way.go(chip, 4);
        Bench.due("isRunning", chip.isRunning(0), true);
        way.go(chip, 1);
        Bench.due("isRunning", chip.isRunning(0), false);
        Bench.due("overflowed", chip.isRequested(4), true);
        way.go(chip, 20);
        Bench.due("count", chip.count(0), 0);
    }

    @Says(promise = 0, words = "its count becomes 0, and one that fires once stops")
    static void oneThatFiresOnceStopsNotAsItCompares(Way way) {
        Tickstation chip = firesOnce(0, 5, 2);
        way.go(chip, 2);
        Bench.due("compared", chip.isRequested(0), true);
        Bench.due("isRunning", chip.isRunning(0), true);
    }

    @Says(promise = 0, words = "its count becomes 0, and one that fires once stops")
    static void oneThatFiresOnceFiresAgainWhenItIsStartedAgain(Way way) {
        Tickstation chip = firesOnce(0, 5, 2);
        chip.setPin(0, 1, 't');
        way.go(chip, 9);
        Bench.due("edges", chip.edges(), 1);
        chip.start(0, true);
        way.go(chip, 4);
        Bench.due("isRunning", chip.isRunning(0), true);
        Bench.due("edges", chip.edges(), 2);
        way.go(chip, 1);
        Bench.due("isRunning", chip.isRunning(0), false);
    }

    // ---- linked

    @Says(promise = 0, words = "A timer can be linked to one with a lower number: then it counts overflows of that one")
    static void countsAnOverflowInTheSameBeat(Way way) {
        Tickstation chip = Bench.withTimer(0, 4, 200);
        Bench.setTimer(chip, 1, 10, 10);
        chip.link(1, 0);
        way.go(chip, 3);
        dueCounts(chip, 3, 0);
        way.go(chip, 1);
        dueCounts(chip, 0, 1);
    }

    @Says(promise = 0, words = "then it counts overflows of that one, and not its clock")
    static void countsNotItsClock(Way way) {
        Tickstation chip = Bench.withTimer(3, 10, 10);
        chip.link(3, 2);
        way.go(chip, 50);
        Bench.due("the other one stands", chip.count(3), 0);
    }

    @Says(promise = 0, words = "then it counts overflows of that one, and not its clock")
    static void countsAlsoIfItsClockIsOff(Way way) {
        Tickstation chip = Bench.withTimer(0, 2, 200);
        chip.setClock(3, 0, 1, false);
        chip.setTimer(1, 3, 10, 10, 'r');
        chip.start(1, true);
        chip.link(1, 0);
        way.go(chip, 6);
        Bench.due("count", chip.count(1), 3);
    }

    @Says(promise = 0, words = "then it counts overflows of that one")
    static void countsNotWhenTheOtherOneCompares(Way way) {
        Tickstation chip = Bench.withTimer(0, 10, 3);
        Bench.setTimer(chip, 1, 10, 10);
        chip.link(1, 0);
        way.go(chip, 9);
        Bench.due("the other one compared", chip.isRequested(0), true);
        Bench.due("count", chip.count(1), 0);
    }

    @Says(promise = 0, words = "then it counts overflows of that one")
    static void countsTheOneOverflowOfOneThatFiresOnce(Way way) {
        Tickstation chip = firesOnce(0, 3, 3);
        Bench.setTimer(chip, 2, 10, 10);
        chip.link(2, 0);
        way.go(chip, 30);
        Bench.due("count", chip.count(2), 1);
    }

    @Says(promise = 0, words = "then it counts overflows of that one")
    static void aRowOfFourCountsInOneBeat(Way way) {
        Tickstation chip = Bench.withTimer(0, 2, 2);
        for (int timer = 1; timer < 4; timer++) {
            Bench.setTimer(chip, timer, 2, 2);
            chip.link(timer, timer - 1);
        }
        way.go(chip, 15);
        dueCounts(chip, 1, 1, 1, 1);
        Bench.due("the last one overflowed", chip.isRequested(7), false);
        way.go(chip, 1);
        dueCounts(chip, 0, 0, 0, 0);
        Bench.due("the last one overflowed", chip.isRequested(7), true);
    }

    @Says(promise = 0, words = "then it counts overflows of that one")
    static void twoAreLinkedToOne(Way way) {
        Tickstation chip = Bench.withTimer(0, 5, 5);
        Bench.setTimer(chip, 1, 10, 10);
        Bench.setTimer(chip, 3, 10, 10);
        chip.link(1, 0);
        chip.link(3, 0);
        way.go(chip, 10);
        dueCounts(chip, 0, 2, 0, 2);
    }

    @Says(promise = 0, words = "When it runs and counts")
    static void aLinkedOneThatDoesNotRunCountsNothing(Way way) {
        Tickstation chip = Bench.withTimer(0, 1, 1);
        chip.link(1, 0);
        way.go(chip, 10);
        Bench.due("count", chip.count(1), 0);
    }

    // ---- setTimer

    @Says(promise = 3, words = "`timer`: the timer, 0 to 3")
    static void timer0IsSet(Way way) {
        Tickstation chip = Bench.withTimer(0, 3, 2);
        way.go(chip, 2);
        Bench.due("compared", chip.isRequested(0), true);
        way.go(chip, 1);
        Bench.due("overflowed", chip.isRequested(4), true);
    }

    @Says(promise = 3, words = "`timer`: the timer, 0 to 3")
    static void timer3IsSet(Way way) {
        Tickstation chip = Bench.withTimer(3, 3, 2);
        way.go(chip, 2);
        Bench.due("compared", chip.isRequested(3), true);
        way.go(chip, 1);
        Bench.due("overflowed", chip.isRequested(7), true);
    }

    @Says(promise = 3, words = "Throws `IndexOutOfBoundsException` if there is no such timer or clock")
    static void timerBelow0IsNotSet() {
        Bench.refused(Bench.NO_INDEX, chip -> chip.setTimer(-1, 0, 5, 5, 'r'));
        Bench.refused(Bench.NO_INDEX, chip -> chip.setTimer(Integer.MIN_VALUE, 0, 5, 5, 'r'));
    }

    @Says(promise = 3, words = "Throws `IndexOutOfBoundsException` if there is no such timer or clock")
    static void timer4IsNotSet() {
        Bench.refused(Bench.NO_INDEX, chip -> chip.setTimer(4, 0, 5, 5, 'r'));
        Bench.refused(Bench.NO_INDEX, chip -> chip.setTimer(Integer.MAX_VALUE, 0, 5, 5, 'r'));
    }

    @Says(promise = 3, words = "`clock`: its clock, 0 to 3")
    static void timerOfTheClock0(Way way) {
        Tickstation chip = new Tickstation();
        chip.setTimer(2, 3, 5, 5, 'r');
        chip.setClock(3, 0, 5, true);
        chip.setTimer(2, 0, 5, 5, 'r');
        chip.start(2, true);
        way.go(chip, 4);
        Bench.due("count", chip.count(2), 4);
    }

    @Says(promise = 3, words = "`clock`: its clock, 0 to 3")
    static void timerOfTheClock3(Way way) {
        Tickstation chip = new Tickstation();
        chip.setClock(3, 0, 5, true);
        chip.setTimer(2, 3, 5, 5, 'r');
        chip.start(2, true);
        way.go(chip, 4);
        Bench.due("count", chip.count(2), 0);
        way.go(chip, 1);
        Bench.due("count", chip.count(2), 1);
    }

    @Says(promise = 3, words = "Throws `IndexOutOfBoundsException` if there is no such timer or clock")
    static void timerOfNoClockBelow0() {
        Bench.refused(Bench.NO_INDEX, chip -> chip.setTimer(0, -1, 5, 5, 'r'));
        Bench.refused(Bench.NO_INDEX, chip -> chip.setTimer(0, Integer.MIN_VALUE, 5, 5, 'r'));
    }

    @Says(promise = 3, words = "Throws `IndexOutOfBoundsException` if there is no such timer or clock")
    static void timerOfNoClock4() {
        Bench.refused(Bench.NO_INDEX, chip -> chip.setTimer(0, 4, 5, 5, 'r'));
        Bench.refused(Bench.NO_INDEX, chip -> chip.setTimer(0, Integer.MAX_VALUE, 5, 5, 'r'));
    }

    @Says(promise = 3, words = "`period`: its period, 1 to 200")
    static void period1(Way way) {
        Tickstation chip = Bench.withTimer(0, 1, 1);
        chip.setPin(0, 0, 't');
        Bench.due("edges", way.go(chip, 5), 5);
        Bench.due("count", chip.count(0), 0);
        Bench.due("setTimer", chip.setTimer(0, 0, 2, 2, 'r'), 1);
    }

    @Says(promise = 3, words = "`period`: its period, 1 to 200")
    static void period200(Way way) {
        Tickstation chip = Bench.withTimer(0, 200, 1);
        way.go(chip, 199);
        Bench.due("overflowed", chip.isRequested(4), false);
        Bench.due("count", chip.count(0), 199);
        way.go(chip, 1);
        Bench.due("overflowed", chip.isRequested(4), true);
        Bench.due("setTimer", chip.setTimer(0, 0, 2, 2, 'r'), 200);
    }

    @Says(promise = 3, words = "Throws `IllegalArgumentException` if a number is out of range")
    static void period0IsRefused() {
        Bench.refused(Bench.BAD, chip -> chip.setTimer(0, 0, 0, 5, 'r'));
    }

    @Says(promise = 3, words = "Throws `IllegalArgumentException` if a number is out of range")
    static void period201IsRefused() {
        Bench.refused(Bench.BAD, chip -> chip.setTimer(3, 3, 201, 5, 'r'));
    }

    @Says(promise = 3, words = "Throws `IllegalArgumentException` if a number is out of range")
    static void periodsFarOutAreRefused() {
        Bench.refused(Bench.BAD, chip -> chip.setTimer(0, 0, -1, 5, 'r'));
        Bench.refused(Bench.BAD, chip -> chip.setTimer(0, 0, Integer.MIN_VALUE, 5, 'r'));
        Bench.refused(Bench.BAD, chip -> chip.setTimer(0, 0, Integer.MAX_VALUE, 5, 'r'));
    }

    @Says(promise = 3, words = "`compare`: its compare number, 1 to 200")
    static void compareNumber1(Way way) {
        Tickstation chip = Bench.withTimer(1, 200, 1);
        way.go(chip, 1);
        Bench.due("compared", chip.isRequested(1), true);
    }

    @Says(promise = 3, words = "`compare`: its compare number, 1 to 200")
    static void compareNumber200(Way way) {
        Tickstation chip = Bench.withTimer(1, 200, 200);
        way.go(chip, 199);
        Bench.due("compared", chip.isRequested(1), false);
        way.go(chip, 1);
        Bench.due("compared", chip.isRequested(1), true);
    }

    @Says(promise = 3, words = "Throws `IllegalArgumentException` if a number is out of range")
    static void compareNumber0IsRefused() {
        Bench.refused(Bench.BAD, chip -> chip.setTimer(0, 0, 5, 0, 'r'));
    }

    @Says(promise = 3, words = "Throws `IllegalArgumentException` if a number is out of range")
    static void compareNumber201IsRefused() {
        Bench.refused(Bench.BAD, chip -> chip.setTimer(3, 3, 5, 201, 'r'));
    }

    @Says(promise = 3, words = "Throws `IllegalArgumentException` if a number is out of range")
    static void compareNumbersFarOutAreRefused() {
        Bench.refused(Bench.BAD, chip -> chip.setTimer(0, 0, 5, -1, 'r'));
        Bench.refused(Bench.BAD, chip -> chip.setTimer(0, 0, 5, Integer.MIN_VALUE, 'r'));
        Bench.refused(Bench.BAD, chip -> chip.setTimer(0, 0, 5, Integer.MAX_VALUE, 'r'));
    }

    @Says(promise = 3, words = "`mode`: 'r' or 'o'")
    static void fromOnceToRepeating(Way way) {
        Tickstation chip = firesOnce(0, 5, 5);
        way.go(chip, 4);
        chip.setTimer(0, 0, 5, 5, 'r');
        way.go(chip, 1);
        Bench.due("isRunning", chip.isRunning(0), true);
    }

    @Says(promise = 3, words = "`mode`: 'r' or 'o'")
    static void fromRepeatingToOnce(Way way) {
        Tickstation chip = Bench.withTimer(0, 5, 5);
        way.go(chip, 4);
        chip.setTimer(0, 0, 5, 5, 'o');
        way.go(chip, 1);
        Bench.due("isRunning", chip.isRunning(0), false);
    }

    @Says(promise = 3, words = "or there is no such mode")
    static void otherModesAreRefused() {
        String others = "RO nsqp01";
        for (int i = 0; i < others.length(); i++) {
            char mode = others.charAt(i);
            Bench.refused(Bench.BAD, chip -> chip.setTimer(0, 0, 5, 5, mode));
        }
        Bench.refused(Bench.BAD, chip -> chip.setTimer(0, 0, 5, 5, (char) 0));
        Bench.refused(Bench.BAD, chip -> chip.setTimer(0, 0, 5, 5, (char) 65535));
        Bench.refused(Bench.BAD, chip -> chip.setTimer(0, 0, 5, 5, (char) ('r' + 256)));
    }

    @Says(promise = 0, words = "the exception that is listed first is thrown")
    static void noSuchTimerComesBeforeTheNumbers() {
        Bench.refused(Bench.NO_INDEX, chip -> chip.setTimer(4, 0, 0, 5, 'r'));
        Bench.refused(Bench.NO_INDEX, chip -> chip.setTimer(-1, 0, 5, 201, 'r'));
        Bench.refused(Bench.NO_INDEX, chip -> chip.setTimer(4, 0, 5, 5, 'x'));
    }

    @Says(promise = 0, words = "the exception that is listed first is thrown")
    static void noSuchClockOfATimerComesBeforeTheNumbers() {
        Bench.refused(Bench.NO_INDEX, chip -> chip.setTimer(0, 4, 201, 5, 'r'));
        Bench.refused(Bench.NO_INDEX, chip -> chip.setTimer(0, -1, 5, 0, 'r'));
        Bench.refused(Bench.NO_INDEX, chip -> chip.setTimer(0, 4, 5, 5, 'x'));
    }

    @Says(promise = 3, words = "Sets a timer; its count stays")
    static void theCountOfASetTimerStays(Way way) {
        Tickstation chip = Bench.withTimer(0, 10, 10);
        way.go(chip, 7);
        chip.setTimer(0, 1, 200, 200, 'o');
        Bench.due("count", chip.count(0), 7);
        Bench.due("isRunning", chip.isRunning(0), true);
        way.go(chip, 1);
        Bench.due("count", chip.count(0), 8);
    }

    @Says(promise = 3, words = "and it is linked to none")
    static void aSetTimerIsLinkedToNone(Way way) {
        Tickstation chip = Bench.withTimer(2, 10, 10);
        chip.link(2, 1);
        chip.setTimer(2, 0, 10, 10, 'r');
        way.go(chip, 3);
        Bench.due("counts its clock", chip.count(2), 3);
        Bench.due("link", chip.link(2, -1), -1);
    }

    @Says(promise = 3, words = "and it is linked to none")
    static void othersStayLinkedToASetTimer(Way way) {
        Tickstation chip = Bench.withTimer(1, 10, 10);
        Bench.setTimer(chip, 2, 10, 10);
        chip.link(2, 1);
        chip.setTimer(1, 0, 2, 2, 'r');
        way.go(chip, 4);
        Bench.due("count", chip.count(2), 2);
    }

    @Says(promise = 3, words = "Returns the period before.")
    static void answersThePeriodBefore() {
        Tickstation chip = new Tickstation();
        Bench.due("as at first", chip.setTimer(1, 0, 200, 1, 'r'), 10);
        Bench.due("the greatest", chip.setTimer(1, 0, 1, 200, 'o'), 200);
        Bench.due("the smallest", chip.setTimer(1, 3, 55, 66, 'r'), 1);
        Bench.due("not the compare number", chip.setTimer(1, 0, 7, 7, 'r'), 55);
    }

    // ---- link

    @Says(promise = 4, words = "Links a timer to another one.")
    static void linksTheHighestToEachLower(Way way) {
        for (int other = 0; other < 3; other++) {
            Tickstation chip = Bench.withTimer(other, 3, 3);
            Bench.setTimer(chip, 3, 10, 10);
            chip.link(3, other);
            way.go(chip, 6);
            Bench.due("count", chip.count(3), 2);
        }
    }

    @Says(promise = 4, words = "Links a timer to another one.")
    static void theCountOfALinkedTimerStays(Way way) {
        Tickstation chip = Bench.withTimer(1, 10, 10);
        way.go(chip, 8);
        chip.link(1, 0);
        Bench.due("count", chip.count(1), 8);
        Bench.setTimer(chip, 0, 1, 1);
        way.go(chip, 1);
        Bench.due("count", chip.count(1), 9);
    }

    @Says(promise = 4, words = "`timer`: the timer, 0 to 3")
    static void timer0CanBeLinkedToNoneAlone() {
        Tickstation chip = new Tickstation();
        Bench.due("link", chip.link(0, -1), -1);
        Bench.refused(Bench.BAD, it -> it.link(0, 0));
        Bench.refused(Bench.BAD, it -> it.link(0, 1));
    }

    @Says(promise = 4, words = "`other`: the other timer, or -1 for none")
    static void linkedToNoneItCountsItsClockAgain(Way way) {
        Tickstation chip = Bench.withTimer(1, 50, 50);
        chip.link(1, 0);
        way.go(chip, 10);
        Bench.due("count", chip.count(1), 0);
        chip.link(1, -1);
        way.go(chip, 10);
        Bench.due("count", chip.count(1), 10);
    }

    @Says(promise = 4, words = "Throws `IndexOutOfBoundsException` if there is no such timer, for the first one")
    static void noTimerBelow0IsLinked() {
        Bench.refused(Bench.NO_INDEX, chip -> chip.link(-1, -1));
        Bench.refused(Bench.NO_INDEX, chip -> chip.link(Integer.MIN_VALUE, -1));
    }

    @Says(promise = 4, words = "Throws `IndexOutOfBoundsException` if there is no such timer, for the first one")
    static void noTimer4IsLinked() {
        Bench.refused(Bench.NO_INDEX, chip -> chip.link(4, 3));
        Bench.refused(Bench.NO_INDEX, chip -> chip.link(4, -1));
        Bench.refused(Bench.NO_INDEX, chip -> chip.link(Integer.MAX_VALUE, 0));
    }

    @Says(promise = 4, words = "if the other one is no timer with a lower number, nor -1")
    static void noTimerIsLinkedToItself() {
        Bench.refused(Bench.BAD, chip -> chip.link(1, 1));
        Bench.refused(Bench.BAD, chip -> chip.link(3, 3));
    }

    @Says(promise = 4, words = "if the other one is no timer with a lower number, nor -1")
    static void noTimerIsLinkedToAHigherOne() {
        Bench.refused(Bench.BAD, chip -> chip.link(1, 2));
        Bench.refused(Bench.BAD, chip -> chip.link(3, 4));
        Bench.refused(Bench.BAD, chip -> chip.link(3, Integer.MAX_VALUE));
    }

    @Says(promise = 4, words = "if the other one is no timer with a lower number, nor -1")
    static void noTimerIsLinkedToMinus2() {
        Bench.refused(Bench.BAD, chip -> chip.link(3, -2));
        Bench.refused(Bench.BAD, chip -> chip.link(0, -2));
        Bench.refused(Bench.BAD, chip -> chip.link(3, Integer.MIN_VALUE));
    }

    @Says(promise = 0, words = "the exception that is listed first is thrown")
    static void noSuchFirstTimerComesBeforeTheOther() {
        Bench.refused(Bench.NO_INDEX, chip -> chip.link(4, 4));
        Bench.refused(Bench.NO_INDEX, chip -> chip.link(-1, -2));
    }

    @Says(promise = 4, words = "Returns the one before, or -1.")
    static void answersTheLinkBefore() {
        Tickstation chip = new Tickstation();
        Bench.due("none", chip.link(3, 0), -1);
        Bench.due("the lowest", chip.link(3, 2), 0);
        Bench.due("the highest", chip.link(3, 2), 2);
        Bench.due("the same again", chip.link(3, -1), 2);
        Bench.due("none again", chip.link(3, -1), -1);
    }

    // ---- start

    @Says(promise = 6, words = "Lets a timer run, or not any more; its count stays.")
    static void theCountStaysAsItIsStoppedAndStarted(Way way) {
        Tickstation chip = Bench.withTimer(0, 10, 10);
        way.go(chip, 6);
        chip.start(0, false);
        Bench.due("stopped", chip.count(0), 6);
        way.go(chip, 6);
        chip.start(0, true);
        Bench.due("started", chip.count(0), 6);
        way.go(chip, 4);
        Bench.due("overflowed", chip.isRequested(4), true);
    }

    @Says(promise = 6, words = "Lets a timer run, or not any more; its count stays.")
    static void theCountStaysAsItIsStartedTwice(Way way) {
        Tickstation chip = Bench.withTimer(0, 10, 10);
        way.go(chip, 6);
        chip.start(0, true);
        Bench.due("count", chip.count(0), 6);
    }

    @Says(promise = 6, words = "`timer`: the timer, 0 to 3")
    static void theFirstAndTheLastTimerAreStarted() {
        Tickstation chip = new Tickstation();
        chip.start(0, true);
        Bench.due("isRunning(0)", chip.isRunning(0), true);
        Bench.due("isRunning(3)", chip.isRunning(3), false);
        chip.start(3, true);
        chip.start(0, false);
        Bench.due("isRunning(0)", chip.isRunning(0), false);
        Bench.due("isRunning(3)", chip.isRunning(3), true);
    }

    @Says(promise = 6, words = "`runs`: true to run")
    static void startedAndStoppedWithoutABeat() {
        Tickstation chip = new Tickstation();
        chip.start(1, true);
        Bench.due("isRunning", chip.isRunning(1), true);
        chip.start(1, false);
        Bench.due("isRunning", chip.isRunning(1), false);
    }

    @Says(promise = 6, words = "Returns true if it ran.")
    static void answersWhetherItRan() {
        Tickstation chip = new Tickstation();
        Bench.due("not at first", chip.start(2, false), false);
        Bench.due("not yet", chip.start(2, true), false);
        Bench.due("it ran", chip.start(2, true), true);
        Bench.due("it ran", chip.start(2, false), true);
        Bench.due("not any more", chip.start(2, true), false);
    }

    @Says(promise = 6, words = "Returns true if it ran.")
    static void oneThatFiredOnceRanNotAnyMore(Way way) {
        Tickstation chip = firesOnce(2, 3, 3);
        way.go(chip, 3);
        Bench.due("start", chip.start(2, true), false);
    }

    @Says(promise = 6, words = "Throws `IndexOutOfBoundsException` if there is no such timer")
    static void noTimerBelow0IsStarted() {
        Bench.refused(Bench.NO_INDEX, chip -> chip.start(-1, true));
        Bench.refused(Bench.NO_INDEX, chip -> chip.start(Integer.MIN_VALUE, false));
    }

    @Says(promise = 6, words = "Throws `IndexOutOfBoundsException` if there is no such timer")
    static void noTimer4IsStarted() {
        Bench.refused(Bench.NO_INDEX, chip -> chip.start(4, true));
        Bench.refused(Bench.NO_INDEX, chip -> chip.start(32, false));
        Bench.refused(Bench.NO_INDEX, chip -> chip.start(Integer.MAX_VALUE, false));
    }

    // ---- count, isRunning

    @Says(promise = 18, words = "Returns the count of a timer.")
    static void theGreatestCount(Way way) {
        Tickstation chip = Bench.withTimer(0, 200, 200);
        way.go(chip, 199);
        Bench.due("count", chip.count(0), 199);
        way.go(chip, 1);
        Bench.due("count", chip.count(0), 0);
    }

    @Says(promise = 18, words = "`timer`: the timer, 0 to 3")
    static void countsOfTheFirstAndTheLastTimer(Way way) {
        Tickstation chip = Bench.withTimer(3, 9, 9);
        way.go(chip, 2);
        Bench.setTimer(chip, 0, 9, 9);
        way.go(chip, 2);
        dueCounts(chip, 2, 0, 0, 4);
    }

    @Says(promise = 18, words = "Returns the count.")
    static void asksWithoutAChange(Way way) {
        Tickstation chip = Bench.withTimer(0, 9, 9);
        way.go(chip, 2);
        Bench.due("count", chip.count(0), 2);
        Bench.due("count", chip.count(0), 2);
    }

    @Says(promise = 18, words = "Throws `IndexOutOfBoundsException` if there is no such timer")
    static void noCountBelow0() {
        Bench.refused(Bench.NO_INDEX, chip -> chip.count(-1));
        Bench.refused(Bench.NO_INDEX, chip -> chip.count(Integer.MIN_VALUE));
    }

    @Says(promise = 18, words = "Throws `IndexOutOfBoundsException` if there is no such timer")
    static void noCountOf4() {
        Bench.refused(Bench.NO_INDEX, chip -> chip.count(4));
        Bench.refused(Bench.NO_INDEX, chip -> chip.count(Integer.MAX_VALUE));
    }

    @Says(promise = 19, words = "Returns whether a timer runs.")
    static void runsUntilItFiresOnce(Way way) {
        Tickstation chip = firesOnce(0, 2, 1);
        Bench.due("isRunning", chip.isRunning(0), true);
        way.go(chip, 1);
        Bench.due("isRunning", chip.isRunning(0), true);
        way.go(chip, 1);
        Bench.due("isRunning", chip.isRunning(0), false);
    }

    @Says(promise = 19, words = "Returns true if it does.")
    static void runsAlsoIfItsClockIsOff(Way way) {
        Tickstation chip = new Tickstation();
        chip.setClock(1, 0, 1, false);
        chip.setTimer(0, 1, 5, 5, 'o');
        chip.start(0, true);
        way.go(chip, 50);
        Bench.due("isRunning", chip.isRunning(0), true);
    }

    @Says(promise = 19, words = "`timer`: the timer, 0 to 3")
    static void eachTimerRunsByItself() {
        for (int timer = 0; timer < 4; timer++) {
            Tickstation chip = new Tickstation();
            chip.start(timer, true);
            for (int other = 0; other < 4; other++) {
                Bench.due("isRunning", chip.isRunning(other), other == timer);
            }
        }
    }

    @Says(promise = 19, words = "Throws `IndexOutOfBoundsException` if there is no such timer")
    static void noTimerBelow0Runs() {
        Bench.refused(Bench.NO_INDEX, chip -> chip.isRunning(-1));
        Bench.refused(Bench.NO_INDEX, chip -> chip.isRunning(Integer.MIN_VALUE));
    }

    @Says(promise = 19, words = "Throws `IndexOutOfBoundsException` if there is no such timer")
    static void noTimer4Runs() {
        Bench.refused(Bench.NO_INDEX, chip -> chip.isRunning(4));
        Bench.refused(Bench.NO_INDEX, chip -> chip.isRunning(Integer.MAX_VALUE));
    }
}
