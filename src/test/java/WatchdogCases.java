/** The watchdog and resets: what the terms say of them, setWatchdog, feed, resets and lastReset. */
final class WatchdogCases {
    private WatchdogCases() {
    }

    private static Tickstation withWatchdog(int clock, int low, int high) {
        Tickstation chip = new Tickstation();
        chip.setWatchdog(clock, low, high);
        return chip;
    }

    private static void dueReset(Way way, Tickstation chip, int beats) {
        int before = chip.resets();
        way.go(chip, beats - 1);
        Bench.due("resets one beat ahead", chip.resets(), before);
        way.go(chip, 1);
        Bench.due("resets", chip.resets(), before + 1);
    }

    // ---- counting

    @Says(promise = 0, words = "It has a clock, a low and a high number, and a count, or is not there, as at first.")
    static void notThereAtFirst(Way way) {
        Tickstation chip = new Tickstation();
        Bench.due("feed", chip.feed(), false);
        way.go(chip, 5000);
        Bench.due("resets", chip.resets(), 0);
        Bench.due("feed", chip.feed(), false);
        Bench.due("setWatchdog", chip.setWatchdog(0, 0, 1), false);
    }

    @Says(promise = 0, words = "When its clock ticks, its count becomes 1 greater")
    static void countsTicksOfItsClockAlone(Way way) {
        Tickstation chip = withWatchdog(3, 0, 5);
        chip.setClock(3, 0, 7, true);
        dueReset(way, chip, 35);
    }

    @Says(promise = 0, words = "When its clock ticks, its count becomes 1 greater")
    static void countsNotWhileItsClockIsOff(Way way) {
        Tickstation chip = withWatchdog(2, 0, 5);
        way.go(chip, 4);
        chip.setClock(2, 0, 1, false);
        way.go(chip, 100);
        Bench.due("resets", chip.resets(), 0);
        chip.setClock(2, 0, 1, true);
        dueReset(way, chip, 1);
    }

    @Says(promise = 0, words = "When its clock ticks, its count becomes 1 greater")
    static void countsNotInDeepSleepButForTheClock0(Way way) {
        Tickstation chip = Bench.asleep(way, 2);
        chip.setWatchdog(1, 0, 2);
        way.go(chip, 100);
        Bench.due("resets", chip.resets(), 0);
        chip.setWatchdog(0, 0, 2);
        dueReset(way, chip, 2);
    }

    @Says(promise = 0, words = "if it is the high number then, the chip is reset")
    static void resetsAtTheHighNumber(Way way) {
        dueReset(way, withWatchdog(0, 0, 10), 10);
    }

    @Says(promise = 0, words = "if it is the high number then, the chip is reset")
    static void resetsAgainAndAgain(Way way) {
        Tickstation chip = withWatchdog(0, 0, 10);
        for (int i = 0; i < 3; i++) {
            dueReset(way, chip, 10);
        }
        way.go(chip, 4970);
        Bench.due("resets", chip.resets(), 500);
    }

    @Says(promise = 0, words = "When it is fed, and its count is less than the low number, the chip is reset")
    static void fedOneBelowTheLowNumber(Way way) {
        Tickstation chip = withWatchdog(0, 5, 10);
        way.go(chip, 4);
        Bench.due("feed", chip.feed(), true);
        Bench.due("resets", chip.resets(), 1);
    }

    @Says(promise = 0, words = "its count is less than the low number, the chip is reset, otherwise its count is 0")
    static void fedAtTheLowNumber(Way way) {
        Tickstation chip = withWatchdog(0, 5, 10);
        way.go(chip, 5);
        Bench.due("feed", chip.feed(), false);
        Bench.due("resets", chip.resets(), 0);
        dueReset(way, chip, 10);
    }

    @Says(promise = 0, words = "its count is less than the low number, the chip is reset, otherwise its count is 0")
    static void fedOneBelowTheHighNumber(Way way) {
        Tickstation chip = withWatchdog(0, 5, 10);
        way.go(chip, 9);
        Bench.due("feed", chip.feed(), false);
        dueReset(way, chip, 10);
    }

    @Says(promise = 0, words = "its count is less than the low number, the chip is reset, otherwise its count is 0")
    static void fedTwiceWithoutABeat(Way way) {
        Tickstation chip = withWatchdog(0, 1, 10);
        way.go(chip, 1);
        Bench.due("the first", chip.feed(), false);
        Bench.due("the second", chip.feed(), true);
    }

    // ---- what a reset does

    @Says(promise = 0, words = "By a reset, all pins are low, by rising numbers")
    static void pinsFallByRisingNumbers(Way way) {
        Tickstation chip = withWatchdog(0, 0, 9);
        int[] pins = {6, 1, 7, 0};
        for (int timer = 0; timer < 4; timer++) {
            Bench.setTimer(chip, timer, 50, 2);
            chip.setPin(timer, pins[timer], 's');
        }
        Bench.due("edges", way.go(chip, 9), 8);
        int[] falling = {0, 1, 6, 7};
        for (int i = 0; i < 4; i++) {
            Bench.due("edgePin", chip.edgePin(4 + i), falling[i]);
            Bench.due("edgeTime", chip.edgeTime(4 + i), 9);
        }
        Bench.due("pins", chip.pins(), 0);
    }

    @Says(promise = 0, words = "By a reset, all pins are low")
    static void lowPinsHaveNoEdge(Way way) {
        Tickstation chip = withWatchdog(0, 0, 9);
        Bench.due("edges", way.go(chip, 50), 0);
        Bench.due("resets", chip.resets(), 5);
    }

    @Says(promise = 0, words = "all timers stop, with the counts 0")
    static void timersStop(Way way) {
        Tickstation chip = withWatchdog(0, 0, 9);
        for (int timer = 0; timer < 4; timer++) {
            Bench.setTimer(chip, timer, 50, 50);
        }
        way.go(chip, 5);
        chip.start(2, false);
        way.go(chip, 4);
        for (int timer = 0; timer < 4; timer++) {
            Bench.due("isRunning", chip.isRunning(timer), false);
            Bench.due("count", chip.count(timer), 0);
        }
        way.go(chip, 5);
        Bench.due("count", chip.count(0), 0);
    }

    @Says(promise = 0, words = "no line is requested, no handler is begun, the processor is idle")
    static void noLineIsRequested(Way way) {
        Tickstation chip = withWatchdog(0, 0, 9);
        for (int line = 0; line < 8; line++) {
            chip.request(line);
        }
        way.go(chip, 9);
        for (int line = 0; line < 8; line++) {
            Bench.due("isRequested", chip.isRequested(line), false);
        }
    }

    @Says(promise = 0, words = "no line is requested, no handler is begun, the processor is idle")
    static void noHandlerIsBegun(Way way) {
        Tickstation chip = Bench.inHandler(way, 5, 5, 20);
        Bench.setLine(chip, 6, 4, 20);
        chip.request(6);
        way.go(chip, 5);
        Bench.due("depth", chip.depth(), 2);
        chip.setWatchdog(0, 0, 1);
        way.go(chip, 1);
        Bench.due("depth", chip.depth(), 0);
        Bench.due("processor", chip.processor(), 'i');
        Bench.due("handled", chip.handled(5) + chip.handled(6), 0);
        Bench.dueThrown(chip, Bench.NO_ELEMENT, Tickstation::onTop);
    }

    @Says(promise = 0, words = "the processor is idle, and the count of the watchdog is 0")
    static void theProcessorIsIdleWhateverItWas(Way way) {
        for (int beats = 0; beats < 12; beats++) {
            Tickstation chip = Bench.withLine(5, 5, 1);
            chip.setSleep(1);
            way.go(chip, 1);
            chip.request(5);
            way.go(chip, beats);
            chip.setWatchdog(0, 1, 2);
            Bench.due("feed", chip.feed(), true);
            Bench.due("processor", chip.processor(), 'i');
            way.go(chip, 1);
            Bench.due("the depth of sleep stays", chip.processor(), 'z');
        }
    }

    @Says(promise = 0, words = "and the count of the watchdog is 0; all else stays")
    static void theWatchdogStaysWithTheCount0(Way way) {
        Tickstation chip = withWatchdog(0, 3, 10);
        way.go(chip, 2);
        Bench.due("feed", chip.feed(), true);
        dueReset(way, chip, 10);
        Bench.due("setWatchdog", chip.setWatchdog(-1, 0, 1), true);
    }

    @Says(promise = 0, words = "all else stays")
    static void clocksStay(Way way) {
        Tickstation chip = withWatchdog(0, 0, 9);
        chip.setClock(1, 0, 5, true);
        way.go(chip, 9);
        Bench.due("ticks(0)", chip.ticks(0), 9);
        Bench.due("ticks(1)", chip.ticks(1), 1);
        way.go(chip, 1);
        Bench.due("its count stayed", chip.ticks(1), 2);
        Bench.due("its divider stayed", chip.setClock(1, 0, 5, true), 5);
    }

    @Says(promise = 0, words = "all else stays")
    static void settingsOfTimersStay(Way way) {
        Tickstation chip = Bench.withTimer(1, 7, 3);
        chip.setPin(1, 4, 's');
        chip.setTimer(2, 0, 8, 8, 'o');
        chip.link(2, 1);
        chip.setWatchdog(0, 0, 9);
        way.go(chip, 9);
        chip.setWatchdog(-1, 0, 9);
        chip.start(1, true);
        chip.start(2, true);
        way.go(chip, 3);
        Bench.due("pins", chip.pins(), 16);
        way.go(chip, 7 * 8 - 3);
        Bench.due("fired once", chip.isRunning(2), false);
        Bench.due("overflowed", chip.isRequested(6), true);
    }

    @Says(promise = 0, words = "all else stays")
    static void linesAndHandlersStay(Way way) {
        Tickstation chip = withWatchdog(0, 9, 10);
        chip.setLine(5, 5, true);
        chip.setHandler(5, 2, 'q', 3);
        chip.setLine(3, 2, true);
        way.go(chip, 1);
        Bench.due("feed", chip.feed(), true);
        chip.setWatchdog(-1, 0, 1);
        chip.request(5);
        way.go(chip, 7);
        Bench.due("both are enabled, the beats and the action stay", chip.chained(), 1);
        Bench.due("setLine", chip.setLine(3, 2, true), 2);
        Bench.due("setHandler", chip.setHandler(5, 2, 'q', 3), 2);
    }

    @Says(promise = 0, words = "all else stays")
    static void handledStays(Way way) {
        Tickstation chip = Bench.inHandler(way, 5, 5, 1);
        way.go(chip, 1);
        chip.setWatchdog(0, 0, 1);
        way.go(chip, 1);
        Bench.due("resets", chip.resets(), 1);
        Bench.due("handled", chip.handled(5), 1);
    }

    @Says(promise = 0, words = "all else stays")
    static void lateAndChainedAndEdgesStay(Way way) {
        Tickstation chip = Bench.withPinThatChanges(2);
        Bench.setLine(chip, 5, 5, 1);
        Bench.setLine(chip, 6, 4, 1);
        chip.request(5);
        way.go(chip, 2);
        chip.request(6);
        way.go(chip, 5);
        Bench.due("late", chip.late(), 1);
        Bench.due("chained", chip.chained(), 1);
        chip.setWatchdog(0, 99, 200);
        Bench.due("feed", chip.feed(), true);
        Bench.due("late", chip.late(), 1);
        Bench.due("chained", chip.chained(), 1);
        Bench.due("time", chip.time(), 7);
        Bench.due("edges", chip.edges(), 8);
        Bench.due("edgeTime", chip.edgeTime(0), 1);
        Bench.due("energy", chip.energy(), 42);
    }

    // ---- the order in a beat

    @Says(promise = 0, words = "then timers count, by rising numbers; then the watchdog")
    static void timersCountAheadOfTheWatchdog(Way way) {
        Tickstation chip = Bench.withTimer(0, 50, 9);
        chip.setPin(0, 3, 's');
        chip.setWatchdog(0, 0, 9);
        Bench.due("edges", way.go(chip, 9), 2);
        Bench.due("edgePin", chip.edgePin(0), 11);
        Bench.due("edgePin", chip.edgePin(1), 3);
        Bench.due("edgeTime", chip.edgeTime(0), 9);
        Bench.due("isRequested", chip.isRequested(0), false);
        Bench.due("count", chip.count(0), 0);
    }

    @Says(promise = 0, words = "Behind a reset by the watchdog's count, the processor does nothing in the same beat")
    static void idleInTheBeatOfAReset(Way way) {
        Tickstation chip = withWatchdog(0, 0, 9);
        chip.setSleep(1);
        way.go(chip, 9);
        Bench.due("not asleep again", chip.processor(), 'i');
        Bench.due("energy", chip.energy(), 8 * 2 + 5);
        way.go(chip, 1);
        Bench.due("in the next beat", chip.processor(), 'z');
    }

    @Says(promise = 0, words = "Behind a reset by the watchdog's count, the processor does nothing in the same beat")
    static void aHandlerInItsLastBeatDoesNotEnd(Way way) {
        Tickstation chip = Bench.withLine(5, 5, 1);
        chip.setHandler(5, 1, 'p', 1);
        chip.setWatchdog(0, 0, 6);
        chip.request(5);
        way.go(chip, 6);
        Bench.due("resets", chip.resets(), 1);
        Bench.due("handled", chip.handled(5), 0);
        Bench.due("edges", chip.edges(), 0);
    }

    @Says(promise = 0, words = "Behind a reset by the watchdog's count, the processor does nothing in the same beat")
    static void aHandlerThatFeedsInTheSameBeatIsTooLate(Way way) {
        Tickstation chip = Bench.withLine(5, 5, 1);
        chip.setHandler(5, 1, 'f', 0);
        chip.setWatchdog(0, 0, 6);
        chip.request(5);
        way.go(chip, 6);
        Bench.due("resets", chip.resets(), 1);
        Tickstation other = Bench.withLine(5, 5, 1);
        other.setHandler(5, 1, 'f', 0);
        other.setWatchdog(0, 0, 7);
        other.request(5);
        way.go(other, 12);
        Bench.due("in time", other.resets(), 0);
    }

    @Says(promise = 0, words = "behind one by an action, nothing else is done in the handler's beat, but energy is counted, and the handler has ended")
    static void nothingElseIsDoneBehindAResetByAnAction(Way way) {
        Tickstation chip = Bench.inHandler(way, 5, 5, 20);
        Bench.setTimer(chip, 1, 50, 50);
        chip.setLine(6, 4, true);
        chip.setHandler(6, 1, 'f', 0);
        chip.request(6);
        Bench.setLine(chip, 7, 4, 1);
        way.go(chip, 5);
        chip.request(7);
        chip.setWatchdog(0, 99, 200);
        long before = chip.energy();
        way.go(chip, 1);
        Bench.due("resets", chip.resets(), 1);
        Bench.due("processor", chip.processor(), 'i');
        Bench.due("depth", chip.depth(), 0);
        Bench.due("chained", chip.chained(), 0);
        Bench.due("isRequested", chip.isRequested(7), false);
        Bench.due("handled(6)", chip.handled(6), 1);
        Bench.due("handled(5)", chip.handled(5), 0);
        Bench.due("energy, as no timer runs", chip.energy() - before, 5);
    }

    // ---- setWatchdog

    @Says(promise = 10, words = "Sets the watchdog, with the count 0.")
    static void setAgainWithTheCount0(Way way) {
        Tickstation chip = withWatchdog(0, 0, 10);
        way.go(chip, 9);
        chip.setWatchdog(0, 0, 10);
        dueReset(way, chip, 10);
    }

    @Says(promise = 10, words = "Sets the watchdog, with the count 0.")
    static void setWithAHighNumberBelowTheCount(Way way) {
        Tickstation chip = withWatchdog(0, 0, 100);
        way.go(chip, 50);
        chip.setWatchdog(0, 0, 10);
        dueReset(way, chip, 10);
    }

    @Says(promise = 10, words = "Sets the watchdog, with the count 0.")
    static void setAgainBehindNone(Way way) {
        Tickstation chip = withWatchdog(0, 0, 10);
        way.go(chip, 9);
        chip.setWatchdog(-1, 0, 10);
        way.go(chip, 9);
        chip.setWatchdog(0, 0, 10);
        dueReset(way, chip, 10);
    }

    @Says(promise = 10, words = "`clock`: its clock, 0 to 3, or -1 for no watchdog")
    static void theFirstAndTheLastClock(Way way) {
        for (int clock = 0; clock < 4; clock += 3) {
            Tickstation chip = withWatchdog(clock, 0, 10);
            chip.setClock(3, 0, 2, true);
            dueReset(way, chip, clock == 0 ? 10 : 20);
        }
    }

    @Says(promise = 10, words = "`clock`: its clock, 0 to 3, or -1 for no watchdog")
    static void noWatchdogAnyMore(Way way) {
        Tickstation chip = withWatchdog(0, 5, 10);
        way.go(chip, 9);
        chip.setWatchdog(-1, 5, 10);
        way.go(chip, 5000);
        Bench.due("resets", chip.resets(), 0);
        Bench.due("feed", chip.feed(), false);
    }

    @Says(promise = 10, words = "`low`: the low number, 0 to 99")
    static void low0(Way way) {
        Tickstation chip = withWatchdog(0, 0, 10);
        Bench.due("feed", chip.feed(), false);
        way.go(chip, 1);
        Bench.due("feed", chip.feed(), false);
        Bench.due("resets", chip.resets(), 0);
    }

    @Says(promise = 10, words = "`low`: the low number, 0 to 99")
    static void low99(Way way) {
        Tickstation early = withWatchdog(0, 99, 200);
        way.go(early, 98);
        Bench.due("feed", early.feed(), true);
        Tickstation chip = withWatchdog(0, 99, 200);
        way.go(chip, 99);
        Bench.due("feed", chip.feed(), false);
    }

    @Says(promise = 10, words = "`high`: the high number, more than the low one, up to 200")
    static void high1MoreThanTheLowOne(Way way) {
        dueReset(way, withWatchdog(0, 0, 1), 1);
        Tickstation chip = withWatchdog(0, 99, 100);
        way.go(chip, 99);
        Bench.due("feed", chip.feed(), false);
        dueReset(way, chip, 100);
    }

    @Says(promise = 10, words = "`high`: the high number, more than the low one, up to 200")
    static void high200(Way way) {
        dueReset(way, withWatchdog(0, 0, 200), 200);
    }

    @Says(promise = 10, words = "Returns true if there was one.")
    static void answersWhetherThereWasOne() {
        Tickstation chip = new Tickstation();
        Bench.due("none at first", chip.setWatchdog(-1, 0, 1), false);
        Bench.due("none still", chip.setWatchdog(0, 0, 1), false);
        Bench.due("of the clock 0", chip.setWatchdog(3, 0, 1), true);
        Bench.due("of the clock 3", chip.setWatchdog(-1, 0, 1), true);
        Bench.due("none again", chip.setWatchdog(-1, 0, 1), false);
    }

    @Says(promise = 10, words = "Throws `IndexOutOfBoundsException` if there is no such clock, nor -1")
    static void noWatchdogOfAClock4() {
        Bench.refused(Bench.NO_INDEX, chip -> chip.setWatchdog(4, 5, 10));
        Bench.refused(Bench.NO_INDEX, chip -> chip.setWatchdog(Integer.MAX_VALUE, 5, 10));
    }

    @Says(promise = 10, words = "Throws `IndexOutOfBoundsException` if there is no such clock, nor -1")
    static void noWatchdogOfAClockMinus2() {
        Bench.refused(Bench.NO_INDEX, chip -> chip.setWatchdog(-2, 5, 10));
        Bench.refused(Bench.NO_INDEX, chip -> chip.setWatchdog(Integer.MIN_VALUE, 5, 10));
    }

    @Says(promise = 10, words = "Throws `IllegalArgumentException` if a number is out of range")
    static void lowBelow0IsRefused() {
        Bench.refused(Bench.BAD, chip -> chip.setWatchdog(0, -1, 10));
        Bench.refused(Bench.BAD, chip -> chip.setWatchdog(0, Integer.MIN_VALUE, 10));
    }

    @Says(promise = 10, words = "Throws `IllegalArgumentException` if a number is out of range")
    static void low100IsRefused() {
        Bench.refused(Bench.BAD, chip -> chip.setWatchdog(0, 100, 150));
        Bench.refused(Bench.BAD, chip -> chip.setWatchdog(0, Integer.MAX_VALUE, 150));
    }

    @Says(promise = 10, words = "Throws `IllegalArgumentException` if a number is out of range")
    static void aHighNumberThatIsTheLowOneIsRefused() {
        Bench.refused(Bench.BAD, chip -> chip.setWatchdog(0, 5, 5));
        Bench.refused(Bench.BAD, chip -> chip.setWatchdog(0, 0, 0));
        Bench.refused(Bench.BAD, chip -> chip.setWatchdog(0, 99, 99));
    }

    @Says(promise = 10, words = "Throws `IllegalArgumentException` if a number is out of range")
    static void aHighNumberBelowTheLowOneIsRefused() {
        Bench.refused(Bench.BAD, chip -> chip.setWatchdog(0, 5, 4));
        Bench.refused(Bench.BAD, chip -> chip.setWatchdog(0, 0, -1));
        Bench.refused(Bench.BAD, chip -> chip.setWatchdog(0, 5, Integer.MIN_VALUE));
    }

    @Says(promise = 10, words = "Throws `IllegalArgumentException` if a number is out of range")
    static void high201IsRefused() {
        Bench.refused(Bench.BAD, chip -> chip.setWatchdog(0, 5, 201));
        Bench.refused(Bench.BAD, chip -> chip.setWatchdog(0, 5, Integer.MAX_VALUE));
    }

    @Says(promise = 10, words = "if a number is out of range, also without a watchdog")
    static void wrongNumbersOfNoWatchdogAreRefused() {
        Bench.refused(Bench.BAD, chip -> chip.setWatchdog(-1, -1, 10));
        Bench.refused(Bench.BAD, chip -> chip.setWatchdog(-1, 100, 150));
        Bench.refused(Bench.BAD, chip -> chip.setWatchdog(-1, 0, 0));
        Bench.refused(Bench.BAD, chip -> chip.setWatchdog(-1, 5, 4));
        Bench.refused(Bench.BAD, chip -> chip.setWatchdog(-1, 5, 201));
    }

    @Says(promise = 0, words = "the exception that is listed first is thrown")
    static void noSuchClockOfAWatchdogComesBeforeTheNumbers() {
        Bench.refused(Bench.NO_INDEX, chip -> chip.setWatchdog(4, -1, 10));
        Bench.refused(Bench.NO_INDEX, chip -> chip.setWatchdog(-2, 5, 5));
        Bench.refused(Bench.NO_INDEX, chip -> chip.setWatchdog(4, 5, 201));
    }

    // ---- feed

    @Says(promise = 12, words = "Feeds the watchdog.")
    static void fedInTimeAgainAndAgain(Way way) {
        Tickstation chip = withWatchdog(0, 3, 5);
        for (int i = 0; i < 20; i++) {
            way.go(chip, 3 + i % 2);
            Bench.due("feed", chip.feed(), false);
        }
        Bench.due("resets", chip.resets(), 0);
    }

    @Says(promise = 12, words = "Returns true if the chip was reset by this")
    static void fedAtTheTime0() {
        Tickstation chip = withWatchdog(0, 1, 10);
        Bench.due("feed", chip.feed(), true);
        Bench.due("lastReset", chip.lastReset(), 0);
        Bench.due("resets", chip.resets(), 1);
    }

    @Says(promise = 12, words = "Returns true if the chip was reset by this")
    static void fedBehindAResetByItsCount(Way way) {
        Tickstation chip = withWatchdog(0, 0, 5);
        way.go(chip, 5);
        Bench.due("not by this", chip.feed(), false);
        Bench.due("resets", chip.resets(), 1);
    }

    @Says(promise = 12, words = "false without a watchdog")
    static void fedWithoutAWatchdog(Way way) {
        Tickstation chip = Bench.inHandler(way, 5, 5, 9);
        Bench.due("feed", chip.feed(), false);
        Bench.due("processor", chip.processor(), 'h');
        Bench.due("resets", chip.resets(), 0);
    }

    // ---- resets, lastReset

    @Says(promise = 31, words = "Returns how often the chip was reset.")
    static void noResetsAtFirst() {
        Bench.due("resets", new Tickstation().resets(), 0);
    }

    @Says(promise = 31, words = "Returns how often.")
    static void countsEachKindOfReset(Way way) {
        Tickstation chip = Bench.withLine(5, 5, 1);
        chip.setHandler(5, 1, 'f', 0);
        chip.setWatchdog(0, 9, 10);
        way.go(chip, 10);
        Bench.due("by the count", chip.resets(), 1);
        chip.feed();
        Bench.due("by feed", chip.resets(), 2);
        chip.request(5);
        way.go(chip, 6);
        Bench.due("by an action", chip.resets(), 3);
    }

    @Says(promise = 32, words = "Returns the time of the last reset.")
    static void theLastOfSeveralResets(Way way) {
        Tickstation chip = withWatchdog(0, 0, 7);
        way.go(chip, 7);
        Bench.due("lastReset", chip.lastReset(), 7);
        way.go(chip, 6);
        Bench.due("lastReset", chip.lastReset(), 7);
        way.go(chip, 1);
        Bench.due("lastReset", chip.lastReset(), 14);
    }

    @Says(promise = 32, words = "Returns the time.")
    static void theTimeOfAResetByAnAction(Way way) {
        Tickstation chip = Bench.withLine(5, 5, 1);
        chip.setHandler(5, 1, 'f', 0);
        chip.setWatchdog(0, 99, 100);
        chip.request(5);
        way.go(chip, 20);
        Bench.due("lastReset", chip.lastReset(), 6);
    }

    @Says(promise = 32, words = "Throws `NoSuchElementException` if there was none")
    static void noLastReset(Way way) {
        Tickstation chip = withWatchdog(0, 0, 10);
        Bench.dueThrown(chip, Bench.NO_ELEMENT, Tickstation::lastReset);
        way.go(chip, 9);
        Bench.dueThrown(chip, Bench.NO_ELEMENT, Tickstation::lastReset);
        way.go(chip, 1);
        Bench.due("lastReset", chip.lastReset(), 10);
    }
}
