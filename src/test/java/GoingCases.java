/** Going on: the new object, run, runByBeats, toEvent, time, isConsistent, and the two ways. */
final class GoingCases {
    private GoingCases() {
    }

    private static void dueEvent(Tickstation chip, int beats) {
        Bench.due("toEvent", chip.toEvent(), beats);
    }

    private static void dueNoEvent(Tickstation chip) {
        Bench.dueThrown(chip, Bench.NO_ELEMENT, Tickstation::toEvent);
    }

    // ---- a new object, the time

    @Says(promise = 1, words = "Creates a chip at the time 0.")
    static void aNewChip() {
        Tickstation chip = new Tickstation();
        Bench.due("time", chip.time(), 0);
        Bench.due("energy", chip.energy(), 0);
        Bench.due("resets", chip.resets(), 0);
        dueNoEvent(chip);
    }

    @Says(promise = 1, words = "Creates a chip at the time 0.")
    static void chipsShareNothing(Way way) {
        Tickstation busy = Bench.busy(7);
        Tickstation chip = new Tickstation();
        way.go(busy, 20);
        Bench.due("time", chip.time(), 0);
        Bench.due("pins", chip.pins(), 0);
        Bench.due("setTimer", chip.setTimer(0, 0, 10, 10, 'r'), 10);
    }

    @Says(promise = 0, words = "The time is 0 at first.")
    static void time0AtFirst() {
        Bench.due("time", new Tickstation().time(), 0);
    }

    @Says(promise = 0, words = "In a beat, the time becomes 1 greater")
    static void timeGoesOnInEachState(Way way) {
        Tickstation chip = Bench.asleep(way, 2);
        Bench.due("time", chip.time(), 1);
        chip.setLine(0, 0, true);
        chip.request(0);
        for (int beat = 2; beat < 30; beat++) {
            way.go(chip, 1);
            Bench.due("time", chip.time(), beat);
        }
    }

    @Says(promise = 16, words = "Returns the time.")
    static void timeStandsBetweenBeats() {
        Tickstation chip = new Tickstation();
        chip.run(5);
        chip.request(1);
        chip.setWatchdog(0, 99, 100);
        chip.feed();
        chip.isConsistent();
        Bench.due("time", chip.time(), 5);
    }

    @Says(promise = 16, words = "Returns the time.")
    static void timeOfManyBeats() {
        Tickstation chip = new Tickstation();
        for (int i = 0; i < 100; i++) {
            chip.run(5000);
        }
        Bench.due("time", chip.time(), 500000);
    }

    @Says(promise = 0, words = "An object is used for at most 512 calls after it has been made")
    static void the512thCall() {
        Tickstation chip = new Tickstation();
        chip.setTimer(0, 0, 1, 1, 'r');
        chip.setPin(0, 0, 't');
        chip.start(0, true);
        for (int call = 4; call < 512; call++) {
            Bench.due("run", chip.run(5000), 5000);
        }
        Bench.due("edges", chip.edges(), 508 * 5000);
    }

    @Says(promise = 0, words = "An object is used for at most 512 calls after it has been made")
    static void asManyHandlersAs512CallsCanBegin() {
        Tickstation chip = new Tickstation();
        for (int timer = 0; timer < 4; timer++) {
            Bench.setTimer(chip, timer, 1, 1);
        }
        for (int line = 0; line < 8; line++) {
            chip.setHandler(line, 60, 'n', 0);
        }
        for (int i = 0; i < 8; i++) {
            chip.setLine(i, 7, true);
        }
        int calls = 24;
        int top = 0;
        chip.run(5);
        for (calls++; calls + 3 < 512; calls += 3) {
            int next = (top + 1) % 8;
            chip.setLine(top, 7, true);
            chip.setLine(next, 6, true);
            chip.run(5);
            Bench.due("onTop", chip.onTop(), next);
            top = next;
        }
        Bench.due("depth", chip.depth(), 163);
        Bench.due("isConsistent", chip.isConsistent(), true);
    }

    // ---- the two ways

    @Says(promise = 0, words = "the times of all edges are those of a model that goes beat by beat")
    static void edgesOfABusyChip(Way way) {
        Tickstation chip = Bench.busy(0);
        Tickstation other = Bench.busy(0);
        way.go(chip, 400);
        for (int i = 0; i < 400; i++) {
            other.runByBeats(1);
        }
        Bench.due("some edges", chip.edges() > 20, true);
        Bench.due("the same answers", Bench.allAnswers(chip).equals(Bench.allAnswers(other)), true);
    }

    // ---- run

    @Says(promise = 13, words = "Goes on by a number of beats, from event to event.")
    static void runGoesOnByTheBeats() {
        Tickstation chip = Bench.withTimer(0, 7, 3);
        chip.run(10);
        Bench.due("time", chip.time(), 10);
        Bench.due("count", chip.count(0), 3);
        chip.run(11);
        Bench.due("time", chip.time(), 21);
        Bench.due("count", chip.count(0), 0);
    }

    @Says(promise = 13, words = "`beats`: the number of beats, 1 to 5000")
    static void run1() {
        Tickstation chip = Bench.withPinThatChanges(0);
        Bench.due("run", chip.run(1), 1);
        Bench.due("time", chip.time(), 1);
    }

    @Says(promise = 13, words = "`beats`: the number of beats, 1 to 5000")
    static void run5000() {
        Tickstation chip = Bench.withPinThatChanges(0);
        Bench.due("run", chip.run(5000), 5000);
        Bench.due("time", chip.time(), 5000);
        Tickstation still = new Tickstation();
        Bench.due("run", still.run(5000), 0);
        Bench.due("time", still.time(), 5000);
    }

    @Says(promise = 13, words = "Returns the number of edges in them.")
    static void runAnswersItsOwnEdgesAlone() {
        Tickstation chip = Bench.withPinThatChanges(0);
        Bench.due("run", chip.run(10), 10);
        Bench.due("run", chip.run(3), 3);
        chip.start(0, false);
        Bench.due("run", chip.run(10), 0);
    }

    @Says(promise = 13, words = "Returns the number of edges in them.")
    static void runAnswersEdgesBeyondTheKeptOnes() {
        Tickstation chip = Bench.withPinThatChanges(0);
        chip.run(190);
        Bench.due("run", chip.run(20), 20);
        Bench.due("run", chip.run(20), 20);
    }

    @Says(promise = 13, words = "Returns the number of edges in them.")
    static void runAnswersEdgesOfResetsAndActions() {
        Tickstation chip = Bench.withLine(5, 5, 1);
        chip.setHandler(5, 1, 'p', 1);
        chip.setWatchdog(0, 0, 9);
        chip.request(5);
        Bench.due("run", chip.run(8), 1);
        Bench.due("run", chip.run(1), 1);
    }

    @Says(promise = 13, words = "Returns the number of edges in them.")
    static void runAnswersNotTheEdgesOfFeeding() {
        Tickstation chip = Bench.withPinThatChanges(0);
        chip.setWatchdog(0, 99, 200);
        chip.run(1);
        chip.feed();
        Bench.due("edges", chip.edges(), 2);
        Bench.due("run", chip.run(9), 0);
    }

    @Says(promise = 13, words = "Throws `IllegalArgumentException` if the number is out of range")
    static void run0IsRefused() {
        Bench.refused(Bench.BAD, chip -> chip.run(0));
    }

    @Says(promise = 13, words = "Throws `IllegalArgumentException` if the number is out of range")
    static void run5001IsRefused() {
        Bench.refused(Bench.BAD, chip -> chip.run(5001));
        Bench.refused(Bench.BAD, chip -> chip.run(Integer.MAX_VALUE));
    }

    @Says(promise = 13, words = "Throws `IllegalArgumentException` if the number is out of range")
    static void runBelow0IsRefused() {
        Bench.refused(Bench.BAD, chip -> chip.run(-1));
        Bench.refused(Bench.BAD, chip -> chip.run(Integer.MIN_VALUE));
    }

    // ---- runByBeats

    @Says(promise = 14, words = "Goes on by a number of beats, beat by beat.")
    static void runByBeatsGoesOnByTheBeats() {
        Tickstation chip = Bench.withTimer(0, 7, 3);
        chip.runByBeats(10);
        Bench.due("time", chip.time(), 10);
        Bench.due("count", chip.count(0), 3);
        chip.runByBeats(11);
        Bench.due("time", chip.time(), 21);
        Bench.due("count", chip.count(0), 0);
    }

    @Says(promise = 14, words = "`beats`: the number of beats, 1 to 500")
    static void runByBeats1() {
        Tickstation chip = Bench.withPinThatChanges(0);
        Bench.due("runByBeats", chip.runByBeats(1), 1);
        Bench.due("time", chip.time(), 1);
    }

    @Says(promise = 14, words = "`beats`: the number of beats, 1 to 500")
    static void runByBeats500() {
        Tickstation chip = Bench.withPinThatChanges(0);
        Bench.due("runByBeats", chip.runByBeats(500), 500);
        Bench.due("time", chip.time(), 500);
    }

    @Says(promise = 14, words = "Returns the number of edges in them.")
    static void runByBeatsAnswersItsOwnEdgesAlone() {
        Tickstation chip = Bench.withPinThatChanges(0);
        Bench.due("runByBeats", chip.runByBeats(195), 195);
        Bench.due("runByBeats", chip.runByBeats(10), 10);
        chip.setWatchdog(0, 99, 200);
        Bench.due("feed", chip.feed(), true);
        Bench.due("runByBeats", chip.runByBeats(10), 0);
        Bench.due("edges", chip.edges(), 206);
    }

    @Says(promise = 14, words = "Throws `IllegalArgumentException` if the number is out of range")
    static void runByBeats0IsRefused() {
        Bench.refused(Bench.BAD, chip -> chip.runByBeats(0));
    }

    @Says(promise = 14, words = "Throws `IllegalArgumentException` if the number is out of range")
    static void runByBeats501IsRefused() {
        Bench.refused(Bench.BAD, chip -> chip.runByBeats(501));
        Bench.refused(Bench.BAD, chip -> chip.runByBeats(5000));
        Bench.refused(Bench.BAD, chip -> chip.runByBeats(Integer.MAX_VALUE));
    }

    @Says(promise = 14, words = "Throws `IllegalArgumentException` if the number is out of range")
    static void runByBeatsBelow0IsRefused() {
        Bench.refused(Bench.BAD, chip -> chip.runByBeats(-1));
        Bench.refused(Bench.BAD, chip -> chip.runByBeats(Integer.MIN_VALUE));
    }

    // ---- toEvent: timers

    @Says(promise = 15, words = "a timer compares or overflows")
    static void toAComparison(Way way) {
        Tickstation chip = Bench.withTimer(3, 100, 60);
        dueEvent(chip, 60);
        way.go(chip, 59);
        dueEvent(chip, 1);
        way.go(chip, 1);
        dueEvent(chip, 40);
    }

    @Says(promise = 15, words = "a timer compares or overflows")
    static void toAnOverflow(Way way) {
        Tickstation chip = Bench.withTimer(3, 100, 200);
        dueEvent(chip, 100);
        way.go(chip, 99);
        dueEvent(chip, 1);
        way.go(chip, 1);
        dueEvent(chip, 100);
    }

    @Says(promise = 15, words = "a timer compares or overflows")
    static void toTheNextOfAllTimers(Way way) {
        Tickstation chip = Bench.withTimer(0, 90, 200);
        Bench.setTimer(chip, 1, 80, 200);
        Bench.setTimer(chip, 2, 70, 200);
        Bench.setTimer(chip, 3, 85, 200);
        dueEvent(chip, 70);
        way.go(chip, 70);
        dueEvent(chip, 10);
    }

    @Says(promise = 15, words = "a timer compares or overflows")
    static void toAnOverflowBeyondThePeriod(Way way) {
        Tickstation chip = Bench.withTimer(0, 100, 200);
        way.go(chip, 50);
        chip.setTimer(0, 0, 50, 200, 'r');
        dueEvent(chip, 1);
        chip.setTimer(0, 0, 3, 200, 'r');
        dueEvent(chip, 1);
        chip.setTimer(0, 0, 51, 200, 'r');
        dueEvent(chip, 1);
        chip.setTimer(0, 0, 52, 200, 'r');
        dueEvent(chip, 2);
    }

    @Says(promise = 15, words = "a timer compares or overflows")
    static void toAComparisonThatTheCountIsBeyond(Way way) {
        Tickstation chip = Bench.withTimer(0, 100, 200);
        way.go(chip, 50);
        chip.setTimer(0, 0, 100, 50, 'r');
        dueEvent(chip, 50);
        chip.setTimer(0, 0, 100, 51, 'r');
        dueEvent(chip, 1);
    }

    @Says(promise = 15, words = "a timer compares or overflows")
    static void toATimerOfADividedClock(Way way) {
        Tickstation chip = new Tickstation();
        chip.setClock(1, 0, 7, true);
        chip.setClock(3, 1, 5, true);
        chip.setTimer(0, 3, 4, 4, 'r');
        chip.start(0, true);
        dueEvent(chip, 140);
        way.go(chip, 34);
        dueEvent(chip, 106);
        way.go(chip, 2);
        dueEvent(chip, 104);
        way.go(chip, 103);
        dueEvent(chip, 1);
    }

    @Says(promise = 15, words = "a timer compares or overflows")
    static void toATimerOfAClockWithACountBeyondItsDivider(Way way) {
        Tickstation chip = new Tickstation();
        chip.setClock(1, 0, 60, true);
        chip.setTimer(0, 1, 3, 3, 'r');
        chip.start(0, true);
        way.go(chip, 40);
        chip.setClock(1, 0, 10, true);
        dueEvent(chip, 21);
        way.go(chip, 20);
        Bench.due("compared", chip.isRequested(0), false);
        way.go(chip, 1);
        Bench.due("compared", chip.isRequested(0), true);
    }

    @Says(promise = 15, words = "a timer compares or overflows")
    static void toTheFarthestTimer() {
        Tickstation chip = new Tickstation();
        for (int clock = 1; clock < 4; clock++) {
            chip.setClock(clock, clock - 1, 64, true);
        }
        chip.setTimer(0, 3, 200, 200, 'r');
        chip.start(0, true);
        dueEvent(chip, 64 * 64 * 64 * 200);
        chip.run(1);
        dueEvent(chip, 64 * 64 * 64 * 200 - 1);
    }

    @Says(promise = 15, words = "a timer compares or overflows")
    static void aLinkedTimerHasAnEventWithTheOtherOne(Way way) {
        Tickstation chip = Bench.withTimer(0, 20, 200);
        Bench.setTimer(chip, 1, 2, 2);
        chip.link(1, 0);
        way.go(chip, 5);
        dueEvent(chip, 15);
    }

    // ---- toEvent: the watchdog

    @Says(promise = 15, words = "the watchdog resets")
    static void toAReset(Way way) {
        Tickstation chip = new Tickstation();
        chip.setClock(2, 0, 6, true);
        chip.setWatchdog(2, 0, 9);
        dueEvent(chip, 54);
        way.go(chip, 53);
        dueEvent(chip, 1);
        way.go(chip, 1);
        dueEvent(chip, 54);
    }

    @Says(promise = 15, words = "the watchdog resets")
    static void toAResetOfTheHighNumber1(Way way) {
        Tickstation chip = new Tickstation();
        chip.setWatchdog(0, 0, 1);
        dueEvent(chip, 1);
        way.go(chip, 3);
        dueEvent(chip, 1);
    }

    @Says(promise = 15, words = "the watchdog resets")
    static void toAResetBehindFeeding(Way way) {
        Tickstation chip = new Tickstation();
        chip.setWatchdog(0, 5, 30);
        way.go(chip, 20);
        dueEvent(chip, 10);
        chip.feed();
        dueEvent(chip, 30);
    }

    // ---- toEvent: the processor

    @Says(promise = 15, words = "or to be idle or asleep without a first line and, if idle, with the depth 0")
    static void toTheEntryOfAnIdleChip() {
        Tickstation chip = Bench.withLine(5, 5, 1);
        dueNoEvent(chip);
        chip.request(5);
        dueEvent(chip, 1);
        chip.setLine(5, 5, false);
        dueNoEvent(chip);
    }

    @Says(promise = 15, words = "or to be idle or asleep without a first line and, if idle, with the depth 0")
    static void toTheSleepOfAnIdleChip(Way way) {
        Tickstation chip = new Tickstation();
        chip.setSleep(1);
        dueEvent(chip, 1);
        way.go(chip, 1);
        dueNoEvent(chip);
        chip.setSleep(2);
        dueNoEvent(chip);
        chip.setSleep(0);
        dueNoEvent(chip);
    }

    @Says(promise = 15, words = "or to be idle or asleep without a first line")
    static void toTheWakingOfAChipAsleep(Way way) {
        Tickstation chip = Bench.asleep(way, 2);
        chip.request(5);
        dueNoEvent(chip);
        chip.setLine(5, 5, true);
        dueEvent(chip, 1);
    }

    @Says(promise = 15, words = "the processor does something else than to have a beat less left, with beats left behind that")
    static void toTheEndOfWaking(Way way) {
        Tickstation chip = Bench.asleep(way, 2);
        chip.setLine(5, 5, true);
        chip.request(5);
        for (int left = 6; left > 0; left--) {
            way.go(chip, 1);
            dueEvent(chip, left);
        }
        Tickstation light = Bench.asleep(way, 1);
        light.setLine(5, 5, true);
        light.request(5);
        way.go(light, 1);
        dueEvent(light, 1);
    }

    @Says(promise = 15, words = "the processor does something else than to have a beat less left, with beats left behind that")
    static void toTheEndOfEntering(Way way) {
        Tickstation chip = Bench.withLine(5, 5, 1);
        chip.request(5);
        for (int left = 4; left > 0; left--) {
            way.go(chip, 1);
            dueEvent(chip, left);
        }
    }

    @Says(promise = 15, words = "the processor does something else than to have a beat less left")
    static void toALateArrival(Way way) {
        Tickstation chip = Bench.withLine(5, 5, 1);
        chip.request(5);
        way.go(chip, 1);
        Bench.setLine(chip, 6, 5, 1);
        chip.request(6);
        dueEvent(chip, 4);
        chip.setLine(6, 4, true);
        dueEvent(chip, 1);
        way.go(chip, 1);
        dueEvent(chip, 3);
    }

    @Says(promise = 15, words = "the processor does something else than to have a beat less left, with beats left behind that")
    static void toTheEndOfAHandler(Way way) {
        Tickstation chip = Bench.inHandler(way, 5, 5, 60);
        dueEvent(chip, 60);
        way.go(chip, 59);
        dueEvent(chip, 1);
    }

    @Says(promise = 15, words = "the processor does something else than to have a beat less left")
    static void toANestedEntry(Way way) {
        Tickstation chip = Bench.inHandler(way, 5, 5, 60);
        Bench.setLine(chip, 6, 5, 1);
        chip.request(6);
        dueEvent(chip, 60);
        chip.setLine(6, 4, true);
        dueEvent(chip, 1);
        way.go(chip, 1);
        dueEvent(chip, 4);
    }

    @Says(promise = 15, words = "the processor does something else than to have a beat less left, with beats left behind that")
    static void toTheEndOfExiting(Way way) {
        Tickstation chip = Bench.inHandler(way, 5, 5, 1);
        for (int left = 3; left > 0; left--) {
            way.go(chip, 1);
            dueEvent(chip, left);
        }
        way.go(chip, 1);
        dueNoEvent(chip);
    }

    @Says(promise = 15, words = "the processor does something else than to have a beat less left, with beats left behind that")
    static void aLineThatWaitsForTheEndOfExitingIsNoEvent(Way way) {
        Tickstation chip = Bench.inHandler(way, 5, 5, 1);
        way.go(chip, 1);
        Bench.setLine(chip, 0, 0, 1);
        chip.request(0);
        dueEvent(chip, 3);
    }

    @Says(promise = 15, words = "Returns in how many beats from now on the next event is, if nothing is set")
    static void askingChangesNothing() {
        Tickstation chip = Bench.busy(5);
        String before = Bench.allAnswers(chip);
        chip.toEvent();
        Bench.due("the same answers", Bench.allAnswers(chip).equals(before), true);
    }

    @Says(promise = 15, words = "Returns the number of beats, 1 or more.")
    static void neverLessThan1(Way way) {
        Tickstation chip = Bench.busy(0);
        for (int i = 0; i < 200; i++) {
            Bench.due("an event ahead", chip.toEvent() >= 1, true);
            way.go(chip, 1);
        }
    }

    @Says(promise = 15, words = "Throws `NoSuchElementException` if there is none, whatever time passes")
    static void noEventOfAStoppedTimer(Way way) {
        Tickstation chip = Bench.withTimer(0, 10, 10);
        way.go(chip, 5);
        chip.start(0, false);
        dueNoEvent(chip);
    }

    @Says(promise = 15, words = "Throws `NoSuchElementException` if there is none, whatever time passes")
    static void noEventOfATimerOfAStoppedClock() {
        Tickstation chip = new Tickstation();
        chip.setTimer(0, 3, 10, 10, 'r');
        chip.start(0, true);
        dueEvent(chip, 10);
        chip.setClock(3, 0, 1, false);
        dueNoEvent(chip);
        chip.setClock(3, 2, 1, true);
        dueEvent(chip, 10);
        chip.setClock(2, 0, 1, false);
        dueNoEvent(chip);
        chip.setClock(2, 1, 1, true);
        chip.setClock(1, 0, 1, false);
        dueNoEvent(chip);
    }

    @Says(promise = 15, words = "Throws `NoSuchElementException` if there is none, whatever time passes")
    static void noEventOfATimerThatIsLinkedToAStoppedOne() {
        Tickstation chip = Bench.withTimer(2, 10, 10);
        chip.link(2, 1);
        dueNoEvent(chip);
        Bench.setTimer(chip, 3, 10, 10);
        chip.link(3, 2);
        dueNoEvent(chip);
        chip.start(1, true);
        dueEvent(chip, 10);
    }

    @Says(promise = 15, words = "Throws `NoSuchElementException` if there is none, whatever time passes")
    static void noEventOfClocksInDeepSleep(Way way) {
        Tickstation chip = Bench.asleep(way, 2);
        chip.setTimer(0, 1, 10, 10, 'r');
        chip.start(0, true);
        chip.setWatchdog(2, 0, 10);
        dueNoEvent(chip);
        chip.setTimer(1, 0, 30, 30, 'r');
        chip.start(1, true);
        dueEvent(chip, 30);
        chip.setSleep(1);
        dueEvent(chip, 10);
    }

    @Says(promise = 15, words = "Throws `NoSuchElementException` if there is none, whatever time passes")
    static void noEventOfAWatchdogOfAStoppedClock() {
        Tickstation chip = new Tickstation();
        chip.setWatchdog(1, 0, 10);
        dueEvent(chip, 10);
        chip.setClock(1, 0, 1, false);
        dueNoEvent(chip);
        chip.setWatchdog(-1, 0, 10);
        dueNoEvent(chip);
    }

    @Says(promise = 15, words = "Throws `NoSuchElementException` if there is none, whatever time passes")
    static void noEventBehindOneThatFiredOnce(Way way) {
        Tickstation chip = new Tickstation();
        chip.setTimer(0, 0, 10, 10, 'o');
        chip.start(0, true);
        way.go(chip, 9);
        dueEvent(chip, 1);
        way.go(chip, 1);
        dueNoEvent(chip);
    }

    // ---- isConsistent

    @Says(promise = 36, words = "each on a copy of the chip, come to the same chip")
    static void theCheckChangesNothing() {
        for (int beats = 0; beats < 40; beats++) {
            Tickstation chip = Bench.busy(beats);
            String before = Bench.allAnswers(chip);
            Bench.due("isConsistent", chip.isConsistent(), true);
            Bench.due("the same answers", Bench.allAnswers(chip).equals(before), true);
            Tickstation twin = Bench.busy(beats);
            chip.run(50);
            twin.run(50);
            Bench.due("the same later on", Bench.allAnswers(chip).equals(Bench.allAnswers(twin)), true);
        }
    }

    @Says(promise = 36, words = "Checks the invariants: from here on, 300 beats from event to event and 300 beat by beat")
    static void theCheckOfANewChip() {
        Bench.due("isConsistent", new Tickstation().isConsistent(), true);
    }

    @Says(promise = 36, words = "Returns true if the invariants hold.")
    static void theCheckOfEachState(Way way) {
        Tickstation chip = Bench.withLine(5, 5, 3);
        chip.setSleep(2);
        way.go(chip, 1);
        chip.request(5);
        for (int i = 0; i < 24; i++) {
            Bench.due("isConsistent", chip.isConsistent(), true);
            way.go(chip, 1);
        }
    }

    @Says(promise = 36, words = "Returns true if the invariants hold.")
    static void theCheckOfAFullProbe(Way way) {
        Tickstation chip = Bench.withPinThatChanges(0);
        way.go(chip, 150);
        Bench.due("it fills up in the check", chip.isConsistent(), true);
        way.go(chip, 150);
        Bench.due("it is full", chip.isConsistent(), true);
    }
}
