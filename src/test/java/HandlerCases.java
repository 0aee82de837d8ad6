/** Handlers and their actions: what the terms say of them, and setHandler. */
final class HandlerCases {
    private HandlerCases() {
    }

    /** The handler of the line 0 has begun; so many beats behind this it ends, and its action is done. */
    private static Tickstation begun(Way way, int beats, char action, int target) {
        Tickstation chip = withAction(beats, action, target);
        chip.request(0);
        way.go(chip, 5);
        return chip;
    }

    private static Tickstation withAction(int beats, char action, int target) {
        Tickstation chip = new Tickstation();
        chip.setLine(0, 3, true);
        chip.setHandler(0, beats, action, target);
        return chip;
    }

    // ---- as at first

    @Says(promise = 0, words = "A line has a handler, of so many beats, 1 at first")
    static void oneBeatAtFirst(Way way) {
        for (int line = 0; line < 8; line++) {
            Tickstation chip = new Tickstation();
            chip.setLine(line, 7, true);
            chip.request(line);
            way.go(chip, 5);
            Bench.due("handled", chip.handled(line), 0);
            way.go(chip, 1);
            Bench.due("handled", chip.handled(line), 1);
            Bench.due("setHandler", chip.setHandler(line, 9, 'n', 0), 1);
        }
    }

    @Says(promise = 0, words = "'n' none, as at first")
    static void noActionAtFirst(Way way) {
        Tickstation chip = new Tickstation();
        chip.setWatchdog(0, 99, 200);
        for (int line = 0; line < 8; line++) {
            chip.setLine(line, 7, true);
            chip.request(line);
        }
        way.go(chip, 60);
        Bench.due("pins", chip.pins(), 0);
        Bench.due("resets", chip.resets(), 0);
        for (int i = 0; i < 8; i++) {
            Bench.due("handled", chip.handled(i), 1);
            Bench.due("isRequested", chip.isRequested(i), false);
            Bench.due("isRunning", chip.isRunning(i / 2), false);
        }
    }

    // ---- actions

    @Says(promise = 0, words = "with an action at its end")
    static void theActionIsDoneAtTheEndAndNotAhead(Way way) {
        Tickstation chip = begun(way, 3, 'p', 4);
        way.go(chip, 2);
        Bench.due("edges", chip.edges(), 0);
        way.go(chip, 1);
        Bench.due("edges", chip.edges(), 1);
        Bench.due("edgeTime", chip.edgeTime(0), 8);
    }

    @Says(promise = 0, words = "'p' the other level for the pin t")
    static void theOtherLevelOfALowPinIsHigh(Way way) {
        Tickstation chip = begun(way, 1, 'p', 4);
        way.go(chip, 1);
        Bench.due("pins", chip.pins(), 16);
        Bench.due("edgePin", chip.edgePin(0), 12);
    }

    @Says(promise = 0, words = "'p' the other level for the pin t")
    static void theOtherLevelOfAHighPinIsLow(Way way) {
        Tickstation chip = Bench.withTimer(3, 200, 1);
        chip.setPin(3, 4, 's');
        chip.setLine(0, 3, true);
        chip.setHandler(0, 1, 'p', 4);
        chip.request(0);
        way.go(chip, 6);
        Bench.due("pins", chip.pins(), 0);
        Bench.due("edgePin", chip.edgePin(1), 4);
        Bench.due("edgeTime", chip.edgeTime(1), 6);
    }

    @Says(promise = 0, words = "'s' the timer t runs")
    static void startsATimerThatCountsFromTheNextBeatOn(Way way) {
        Tickstation chip = begun(way, 1, 's', 2);
        way.go(chip, 1);
        Bench.due("isRunning", chip.isRunning(2), true);
        Bench.due("in the beat of the action", chip.count(2), 0);
        way.go(chip, 1);
        Bench.due("in the next beat", chip.count(2), 1);
    }

    @Says(promise = 0, words = "'s' the timer t runs")
    static void startsATimerThatRunsAlready(Way way) {
        Tickstation chip = withAction(1, 's', 2);
        Bench.setTimer(chip, 2, 50, 50);
        chip.request(0);
        way.go(chip, 7);
        Bench.due("isRunning", chip.isRunning(2), true);
        Bench.due("count", chip.count(2), 7);
    }

    @Says(promise = 0, words = "'x' the timer t stops")
    static void stopsATimerBehindItsCountOfTheBeat(Way way) {
        Tickstation chip = withAction(1, 'x', 2);
        Bench.setTimer(chip, 2, 50, 50);
        chip.request(0);
        way.go(chip, 6);
        Bench.due("isRunning", chip.isRunning(2), false);
        Bench.due("count", chip.count(2), 6);
        way.go(chip, 10);
        Bench.due("count", chip.count(2), 6);
    }

    @Says(promise = 0, words = "'x' the timer t stops")
    static void stopsATimerThatDoesNotRun(Way way) {
        Tickstation chip = begun(way, 1, 'x', 2);
        way.go(chip, 1);
        Bench.due("isRunning", chip.isRunning(2), false);
        Bench.due("processor", chip.processor(), 'x');
    }

    @Says(promise = 0, words = "with an action at its end")
    static void noActionDoesWhatAnotherOneDoes(Way way) {
        String actions = "npsxfq";
        for (int i = 0; i < actions.length(); i++) {
            char action = actions.charAt(i);
            Tickstation chip = withAction(1, action, action == 'n' || action == 'f' ? 0 : 2);
            Bench.setTimer(chip, 2, 50, 50);
            chip.start(2, action != 's');
            chip.setWatchdog(0, 1, 8);
            chip.request(0);
            way.go(chip, 6);
            Bench.due(action + ": pins", chip.pins(), action == 'p' ? 4 : 0);
            for (int line = 0; line < 8; line++) {
                Bench.due(action + ": isRequested", chip.isRequested(line), action == 'q' && line == 2);
            }
            for (int timer = 0; timer < 4; timer++) {
                Bench.due(action + ": isRunning", chip.isRunning(timer), action != 'x' && timer == 2);
            }
            way.go(chip, 2);
            Bench.due(action + ": resets", chip.resets(), action == 'f' ? 0 : 1);
        }
    }

    @Says(promise = 0, words = "'f' the watchdog is fed")
    static void feedsNoWatchdog(Way way) {
        Tickstation chip = begun(way, 1, 'f', 0);
        way.go(chip, 1);
        Bench.due("resets", chip.resets(), 0);
        Bench.due("handled", chip.handled(0), 1);
        Bench.due("processor", chip.processor(), 'x');
    }

    @Says(promise = 0, words = "'f' the watchdog is fed")
    static void feedsAtTheLowNumber(Way way) {
        Tickstation chip = withAction(1, 'f', 0);
        chip.setWatchdog(0, 6, 8);
        chip.request(0);
        way.go(chip, 6);
        Bench.due("resets", chip.resets(), 0);
        Bench.due("processor", chip.processor(), 'x');
        way.go(chip, 7);
        Bench.due("the count was 0", chip.resets(), 0);
        way.go(chip, 1);
        Bench.due("the high number", chip.resets(), 1);
    }

    @Says(promise = 0, words = "'f' the watchdog is fed")
    static void feedsOneBelowTheLowNumber(Way way) {
        Tickstation chip = withAction(1, 'f', 0);
        chip.setWatchdog(0, 7, 8);
        chip.request(0);
        way.go(chip, 6);
        Bench.due("resets", chip.resets(), 1);
        Bench.due("lastReset", chip.lastReset(), 6);
        Bench.due("processor", chip.processor(), 'i');
    }

    @Says(promise = 0, words = "'q' the line t is requested")
    static void requestsAnotherLine(Way way) {
        Tickstation chip = begun(way, 1, 'q', 6);
        way.go(chip, 1);
        Bench.due("isRequested", chip.isRequested(6), true);
        Bench.due("not enabled, so not chained", chip.processor(), 'x');
    }

    @Says(promise = 0, words = "'q' the line t is requested")
    static void requestsALineThatIsRequestedAlready(Way way) {
        Tickstation chip = begun(way, 1, 'q', 6);
        chip.request(6);
        way.go(chip, 1);
        Bench.due("isRequested", chip.isRequested(6), true);
    }

    @Says(promise = 0, words = "'q' the line t is requested")
    static void requestsItsOwnLineAndIsChained(Way way) {
        Tickstation chip = begun(way, 1, 'q', 0);
        way.go(chip, 1);
        Bench.due("processor", chip.processor(), 'e');
        Bench.due("chained", chip.chained(), 1);
        way.go(chip, 2);
        Bench.due("onTop", chip.onTop(), 0);
    }

    // ---- setHandler

    @Says(promise = 8, words = "Sets the handler of a line; one that was begun has the beats that it had")
    static void fewerBeatsChangeNotOneThatWasBegun(Way way) {
        Tickstation chip = begun(way, 10, 'n', 0);
        chip.setHandler(0, 1, 'n', 0);
        way.go(chip, 9);
        Bench.due("handled", chip.handled(0), 0);
        way.go(chip, 1);
        Bench.due("handled", chip.handled(0), 1);
    }

    @Says(promise = 8, words = "Sets the handler of a line; one that was begun has the beats that it had")
    static void moreBeatsChangeNotOneThatWasBegun(Way way) {
        Tickstation chip = begun(way, 10, 'n', 0);
        way.go(chip, 9);
        chip.setHandler(0, 60, 'n', 0);
        way.go(chip, 1);
        Bench.due("handled", chip.handled(0), 1);
    }

    @Says(promise = 8, words = "one that was begun has the beats that it had")
    static void otherBeatsChangeOneThatIsEntered(Way way) {
        Tickstation chip = withAction(10, 'n', 0);
        chip.request(0);
        way.go(chip, 4);
        chip.setHandler(0, 2, 'n', 0);
        way.go(chip, 2);
        Bench.due("handled", chip.handled(0), 0);
        way.go(chip, 1);
        Bench.due("handled", chip.handled(0), 1);
    }

    @Says(promise = 8, words = "one that was begun has the beats that it had")
    static void otherBeatsChangeNotOneBelowTheTop(Way way) {
        Tickstation chip = begun(way, 10, 'n', 0);
        Bench.setLine(chip, 1, 0, 1);
        chip.request(1);
        way.go(chip, 5);
        Bench.due("onTop", chip.onTop(), 1);
        chip.setHandler(0, 1, 'n', 0);
        way.go(chip, 1 + 3 + 9);
        Bench.due("handled", chip.handled(0), 0);
        way.go(chip, 1);
        Bench.due("handled", chip.handled(0), 1);
    }

    @Says(promise = 8, words = "and the action that it has now")
    static void anotherActionIsThatOfOneThatWasBegun(Way way) {
        Tickstation chip = begun(way, 10, 'p', 4);
        way.go(chip, 9);
        chip.setHandler(0, 10, 's', 1);
        way.go(chip, 1);
        Bench.due("pins", chip.pins(), 0);
        Bench.due("isRunning", chip.isRunning(1), true);
    }

    @Says(promise = 8, words = "and the action that it has now")
    static void anotherTargetIsThatOfOneThatWasBegun(Way way) {
        Tickstation chip = begun(way, 10, 'p', 4);
        chip.setHandler(0, 10, 'p', 5);
        way.go(chip, 10);
        Bench.due("pins", chip.pins(), 32);
    }

    @Says(promise = 8, words = "`line`: the line, 0 to 7")
    static void handlersOfTheFirstAndTheLastLine(Way way) {
        Tickstation chip = new Tickstation();
        chip.setHandler(0, 2, 'p', 0);
        chip.setHandler(7, 3, 'p', 7);
        chip.setLine(0, 7, true);
        chip.setLine(7, 7, true);
        chip.request(0);
        chip.request(7);
        way.go(chip, 7);
        Bench.due("pins", chip.pins(), 1);
        way.go(chip, 5);
        Bench.due("pins", chip.pins(), 129);
    }

    @Says(promise = 8, words = "`beats`: its beats, 1 to 60")
    static void beats1(Way way) {
        Tickstation chip = begun(way, 1, 'n', 0);
        Bench.due("processor", chip.processor(), 'h');
        way.go(chip, 1);
        Bench.due("handled", chip.handled(0), 1);
        Bench.due("setHandler", chip.setHandler(0, 2, 'n', 0), 1);
    }

    @Says(promise = 8, words = "`beats`: its beats, 1 to 60")
    static void beats60(Way way) {
        Tickstation chip = begun(way, 60, 'n', 0);
        way.go(chip, 59);
        Bench.due("processor", chip.processor(), 'h');
        Bench.due("handled", chip.handled(0), 0);
        way.go(chip, 1);
        Bench.due("handled", chip.handled(0), 1);
        Bench.due("setHandler", chip.setHandler(0, 2, 'n', 0), 60);
    }

    @Says(promise = 8, words = "`action`: its action")
    static void fromAnActionToNone(Way way) {
        Tickstation chip = withAction(1, 'p', 3);
        chip.setHandler(0, 1, 'n', 0);
        chip.request(0);
        way.go(chip, 6);
        Bench.due("handled", chip.handled(0), 1);
        Bench.due("edges", chip.edges(), 0);
    }

    @Says(promise = 8, words = "`target`: the pin, timer or line of the action, 0 for 'n' and 'f'")
    static void theFirstAndTheLastPin(Way way) {
        for (int pin = 0; pin < 8; pin += 7) {
            Tickstation chip = begun(way, 1, 'p', pin);
            way.go(chip, 1);
            Bench.due("pins", chip.pins(), 1 << pin);
        }
    }

    @Says(promise = 8, words = "`target`: the pin, timer or line of the action, 0 for 'n' and 'f'")
    static void theFirstAndTheLastTimerToStart(Way way) {
        for (int timer = 0; timer < 4; timer += 3) {
            Tickstation chip = begun(way, 1, 's', timer);
            way.go(chip, 1);
            for (int other = 0; other < 4; other++) {
                Bench.due("isRunning", chip.isRunning(other), other == timer);
            }
        }
    }

    @Says(promise = 8, words = "`target`: the pin, timer or line of the action, 0 for 'n' and 'f'")
    static void theFirstAndTheLastTimerToStop(Way way) {
        for (int timer = 0; timer < 4; timer += 3) {
            Tickstation chip = withAction(1, 'x', timer);
            for (int other = 0; other < 4; other++) {
                Bench.setTimer(chip, other, 50, 50);
            }
            chip.request(0);
            way.go(chip, 6);
            for (int other = 0; other < 4; other++) {
                Bench.due("isRunning", chip.isRunning(other), other != timer);
            }
        }
    }

    @Says(promise = 8, words = "`target`: the pin, timer or line of the action, 0 for 'n' and 'f'")
    static void theFirstAndTheLastLineToRequest(Way way) {
        for (int line = 0; line < 8; line += 7) {
            Tickstation chip = new Tickstation();
            chip.setLine(3, 3, true);
            chip.setHandler(3, 1, 'q', line);
            chip.request(3);
            way.go(chip, 6);
            for (int other = 0; other < 8; other++) {
                Bench.due("isRequested", chip.isRequested(other), other == line);
            }
        }
    }

    @Says(promise = 8, words = "Returns the beats before.")
    static void answersTheBeatsBefore() {
        Tickstation chip = new Tickstation();
        Bench.due("as at first", chip.setHandler(3, 60, 'q', 7), 1);
        Bench.due("the most", chip.setHandler(3, 1, 'n', 0), 60);
        Bench.due("the fewest", chip.setHandler(3, 30, 'f', 0), 1);
        Bench.due("the same again", chip.setHandler(3, 30, 'f', 0), 30);
        Bench.due("another line", chip.setHandler(2, 30, 'f', 0), 1);
    }

    @Says(promise = 8, words = "Returns the beats before.")
    static void answersTheBeatsSetAndNotTheBeatsLeft(Way way) {
        Tickstation chip = begun(way, 10, 'n', 0);
        way.go(chip, 4);
        Bench.due("setHandler", chip.setHandler(0, 20, 'n', 0), 10);
        Bench.due("setHandler", chip.setHandler(0, 20, 'n', 0), 20);
    }

    @Says(promise = 8, words = "Throws `IndexOutOfBoundsException` if there is no such line")
    static void noHandlerOfALineBelow0() {
        Bench.refused(Bench.NO_INDEX, chip -> chip.setHandler(-1, 5, 'n', 0));
        Bench.refused(Bench.NO_INDEX, chip -> chip.setHandler(Integer.MIN_VALUE, 5, 'n', 0));
    }

    @Says(promise = 8, words = "Throws `IndexOutOfBoundsException` if there is no such line")
    static void noHandlerOfALine8() {
        Bench.refused(Bench.NO_INDEX, chip -> chip.setHandler(8, 5, 'n', 0));
        Bench.refused(Bench.NO_INDEX, chip -> chip.setHandler(Integer.MAX_VALUE, 5, 'n', 0));
    }

    @Says(promise = 8, words = "Throws `IllegalArgumentException` if a number is out of range")
    static void beats0AreRefused() {
        Bench.refused(Bench.BAD, chip -> chip.setHandler(1, 0, 'n', 0));
        Bench.refused(Bench.BAD, chip -> chip.setHandler(1, -1, 'n', 0));
        Bench.refused(Bench.BAD, chip -> chip.setHandler(1, Integer.MIN_VALUE, 'n', 0));
    }

    @Says(promise = 8, words = "Throws `IllegalArgumentException` if a number is out of range")
    static void beats61AreRefused() {
        Bench.refused(Bench.BAD, chip -> chip.setHandler(1, 61, 'n', 0));
        Bench.refused(Bench.BAD, chip -> chip.setHandler(1, Integer.MAX_VALUE, 'n', 0));
    }

    @Says(promise = 8, words = "Throws `IllegalArgumentException` if a number is out of range")
    static void targetsOfNoneOtherThan0AreRefused() {
        Bench.refused(Bench.BAD, chip -> chip.setHandler(1, 5, 'n', 1));
        Bench.refused(Bench.BAD, chip -> chip.setHandler(1, 5, 'n', -1));
    }

    @Says(promise = 8, words = "Throws `IllegalArgumentException` if a number is out of range")
    static void targetsOfFeedingOtherThan0AreRefused() {
        Bench.refused(Bench.BAD, chip -> chip.setHandler(1, 5, 'f', 1));
        Bench.refused(Bench.BAD, chip -> chip.setHandler(1, 5, 'f', -1));
    }

    @Says(promise = 8, words = "Throws `IllegalArgumentException` if a number is out of range")
    static void targetsThatAreNoPinAreRefused() {
        Bench.refused(Bench.BAD, chip -> chip.setHandler(1, 5, 'p', 8));
        Bench.refused(Bench.BAD, chip -> chip.setHandler(1, 5, 'p', -1));
        Bench.refused(Bench.BAD, chip -> chip.setHandler(1, 5, 'p', Integer.MAX_VALUE));
    }

    @Says(promise = 8, words = "Throws `IllegalArgumentException` if a number is out of range")
    static void targetsThatAreNoTimerAreRefused() {
        Bench.refused(Bench.BAD, chip -> chip.setHandler(1, 5, 's', 4));
        Bench.refused(Bench.BAD, chip -> chip.setHandler(1, 5, 's', -1));
        Bench.refused(Bench.BAD, chip -> chip.setHandler(1, 5, 'x', 4));
        Bench.refused(Bench.BAD, chip -> chip.setHandler(1, 5, 'x', -1));
        Bench.refused(Bench.BAD, chip -> chip.setHandler(1, 5, 'x', Integer.MIN_VALUE));
    }

    @Says(promise = 8, words = "Throws `IllegalArgumentException` if a number is out of range")
    static void targetsThatAreNoLineAreRefused() {
        Bench.refused(Bench.BAD, chip -> chip.setHandler(1, 5, 'q', 8));
        Bench.refused(Bench.BAD, chip -> chip.setHandler(1, 5, 'q', -1));
        Bench.refused(Bench.BAD, chip -> chip.setHandler(1, 5, 'q', Integer.MIN_VALUE));
    }

    @Says(promise = 8, words = "or there is no such action")
    static void otherActionsOfAHandlerAreRefused() {
        String others = "NPSXFQ ctuzeh0";
        for (int i = 0; i < others.length(); i++) {
            char action = others.charAt(i);
            Bench.refused(Bench.BAD, chip -> chip.setHandler(1, 5, action, 0));
        }
        Bench.refused(Bench.BAD, chip -> chip.setHandler(1, 5, (char) 0, 0));
        Bench.refused(Bench.BAD, chip -> chip.setHandler(1, 5, (char) 65535, 0));
        Bench.refused(Bench.BAD, chip -> chip.setHandler(1, 5, (char) ('p' + 256), 0));
    }

    @Says(promise = 0, words = "the exception that is listed first is thrown")
    static void noSuchLineComesBeforeTheNumbersAndTheAction() {
        Bench.refused(Bench.NO_INDEX, chip -> chip.setHandler(8, 0, 'n', 0));
        Bench.refused(Bench.NO_INDEX, chip -> chip.setHandler(-1, 5, 'p', 8));
        Bench.refused(Bench.NO_INDEX, chip -> chip.setHandler(8, 5, 'z', 0));
    }
}
