/** The processor: what the terms say of it, processor, depth, onTop, late and chained. */
final class ProcessorCases {
    private ProcessorCases() {
    }

    private static void dueStates(Way way, Tickstation chip, String states) {
        for (int i = 0; i < states.length(); i++) {
            way.go(chip, 1);
            Bench.due("processor, " + (i + 1) + " beats on", chip.processor(), states.charAt(i));
        }
    }

    /** The line 5, of the rank 5, is entered; 4 less the beats are left. */
    private static Tickstation entering(Way way, int beats) {
        Tickstation chip = Bench.withLine(5, 5, 10);
        chip.request(5);
        way.go(chip, beats);
        return chip;
    }

    private static void ask(Tickstation chip, int line, int rank, int beats) {
        Bench.setLine(chip, line, rank, beats);
        chip.request(line);
    }

    // ---- idle

    @Says(promise = 0, words = "It is idle 'i', as at first")
    static void isIdleAtFirst() {
        Bench.due("processor", new Tickstation().processor(), 'i');
    }

    @Says(promise = 0, words = "idle: if there is a first line, it enters this with 4 beats left")
    static void entersIn4Beats(Way way) {
        Tickstation chip = Bench.withLine(5, 5, 2);
        chip.request(5);
        dueStates(way, chip, "eeeeh");
    }

    @Says(promise = 0, words = "idle: if there is a first line")
    static void staysIdleWithoutALine(Way way) {
        Tickstation chip = new Tickstation();
        way.go(chip, 5000);
        Bench.due("processor", chip.processor(), 'i');
    }

    @Says(promise = 0, words = "if there is a first line, it enters this with 4 beats left; otherwise, if the depth of sleep")
    static void entersAheadOfSleeping(Way way) {
        Tickstation chip = Bench.withLine(5, 5, 2);
        chip.setSleep(2);
        chip.request(5);
        dueStates(way, chip, "eeeehhxxxiz");
    }

    @Says(promise = 0, words = "otherwise, if the depth of sleep is not 0, it is asleep")
    static void sleepsAtEachDepthButNone(Way way) {
        for (int depth = 0; depth < 3; depth++) {
            Tickstation chip = new Tickstation();
            chip.setSleep(depth);
            Bench.due("ahead of the beat", chip.processor(), 'i');
            way.go(chip, 1);
            Bench.due("behind it", chip.processor(), depth == 0 ? 'i' : 'z');
        }
    }

    @Says(promise = 0, words = "otherwise, if the depth of sleep is not 0, it is asleep")
    static void sleepsWithARequestedLineThatIsNotEnabled(Way way) {
        Tickstation chip = new Tickstation();
        chip.setSleep(1);
        chip.request(5);
        dueStates(way, chip, "zzz");
    }

    @Says(promise = 0, words = "In each beat it does one of these")
    static void entersInTheBeatOfATimersRequest(Way way) {
        Tickstation chip = Bench.withTimer(0, 50, 3);
        chip.setLine(0, 7, true);
        dueStates(way, chip, "iieeeeh");
    }

    // ---- asleep and waking

    @Says(promise = 0, words = "Asleep: if there is a first line, it wakes")
    static void staysAsleepWithoutALine(Way way) {
        Tickstation chip = Bench.asleep(way, 1);
        way.go(chip, 5000);
        Bench.due("processor", chip.processor(), 'z');
    }

    @Says(promise = 0, words = "Asleep: if there is a first line, it wakes")
    static void staysAsleepWithALineThatIsNotEnabled(Way way) {
        Tickstation chip = Bench.asleep(way, 2);
        chip.request(3);
        dueStates(way, chip, "zzz");
        chip.setLine(3, 7, true);
        dueStates(way, chip, "u");
    }

    @Says(promise = 0, words = "it wakes, with 1 beat left, or 6 at the depth 2")
    static void wakesIn1Beat(Way way) {
        Tickstation chip = Bench.asleep(way, 1);
        ask(chip, 5, 5, 2);
        dueStates(way, chip, "uieeeeh");
    }

    @Says(promise = 0, words = "it wakes, with 1 beat left, or 6 at the depth 2")
    static void wakesIn6Beats(Way way) {
        Tickstation chip = Bench.asleep(way, 2);
        ask(chip, 5, 5, 2);
        dueStates(way, chip, "uuuuuuieeeeh");
    }

    @Says(promise = 0, words = "Waking: a beat less is left; with none left, it is idle.")
    static void entersNotWhileItWakes(Way way) {
        Tickstation chip = Bench.asleep(way, 2);
        ask(chip, 5, 5, 2);
        way.go(chip, 3);
        ask(chip, 0, 0, 2);
        dueStates(way, chip, "uuuieeeeh");
        Bench.due("the first line as it was idle", chip.onTop(), 0);
        Bench.due("late", chip.late(), 0);
    }

    @Says(promise = 0, words = "Waking: a beat less is left; with none left, it is idle.")
    static void sleepsAgainIfTheLineIsNotEnabledAnyMore(Way way) {
        Tickstation chip = Bench.asleep(way, 2);
        ask(chip, 5, 5, 2);
        way.go(chip, 1);
        chip.setLine(5, 5, false);
        dueStates(way, chip, "uuuuuiz");
    }

    @Says(promise = 0, words = "Waking: a beat less is left; with none left, it is idle.")
    static void anotherDepthChangesNotTheBeatsOfWaking(Way way) {
        Tickstation deep = Bench.asleep(way, 2);
        ask(deep, 5, 5, 2);
        way.go(deep, 1);
        deep.setSleep(1);
        dueStates(way, deep, "uuuuuie");
        Tickstation light = Bench.asleep(way, 1);
        ask(light, 5, 5, 2);
        way.go(light, 1);
        light.setSleep(2);
        dueStates(way, light, "ie");
    }

    // ---- entering

    @Says(promise = 0, words = "if the first line is more urgent than the one that is entered, this is entered in its place")
    static void aMoreUrgentLineArrivesLate(Way way) {
        Tickstation chip = entering(way, 1);
        ask(chip, 6, 4, 3);
        way.go(chip, 1);
        Bench.due("late", chip.late(), 1);
        way.go(chip, 3);
        Bench.due("onTop", chip.onTop(), 6);
        Bench.due("the one that was entered", chip.isRequested(5), true);
    }

    @Says(promise = 0, words = "if the first line is more urgent than the one that is entered")
    static void aLineOfTheSameRankArrivesNotLate(Way way) {
        Tickstation chip = entering(way, 1);
        ask(chip, 4, 5, 3);
        way.go(chip, 4);
        Bench.due("late", chip.late(), 0);
        Bench.due("onTop", chip.onTop(), 5);
        Bench.due("the one of a lower number", chip.isRequested(4), true);
    }

    @Says(promise = 0, words = "with the beats that are left, which counts as a late arrival")
    static void arrivesLateInTheLastBeat(Way way) {
        Tickstation chip = entering(way, 4);
        ask(chip, 6, 4, 3);
        way.go(chip, 1);
        Bench.due("late", chip.late(), 1);
        Bench.due("processor", chip.processor(), 'h');
        Bench.due("onTop", chip.onTop(), 6);
        Bench.due("depth", chip.depth(), 1);
        Bench.due("the one that began", chip.isRequested(6), false);
        Bench.due("the one that was entered", chip.isRequested(5), true);
    }

    @Says(promise = 0, words = "with the beats that are left, which counts as a late arrival")
    static void arrivesTooLateBehindTheLastBeat(Way way) {
        Tickstation chip = entering(way, 5);
        ask(chip, 6, 4, 3);
        dueStates(way, chip, "eeeeh");
        Bench.due("late", chip.late(), 0);
        Bench.due("depth", chip.depth(), 2);
    }

    @Says(promise = 0, words = "with the beats that are left, which counts as a late arrival")
    static void severalArriveLateInOneEntry(Way way) {
        Tickstation chip = entering(way, 1);
        for (int line = 4; line > 0; line--) {
            ask(chip, line, line, 3);
            way.go(chip, 1);
            Bench.due("late", chip.late(), 5 - line);
        }
        Bench.due("onTop", chip.onTop(), 1);
    }

    @Says(promise = 0, words = "with the beats that are left, which counts as a late arrival")
    static void theMostUrgentOfTwoIsOneLateArrival(Way way) {
        Tickstation chip = entering(way, 2);
        ask(chip, 6, 4, 3);
        ask(chip, 7, 3, 3);
        way.go(chip, 3);
        Bench.due("late", chip.late(), 1);
        Bench.due("onTop", chip.onTop(), 7);
    }

    @Says(promise = 0, words = "with none left, the line is not requested any more, and its handler begins, on top, with its beats")
    static void isRequestedAgainByATimerInTheBeatThatBegins(Way way) {
        Tickstation chip = Bench.withTimer(0, 50, 5);
        Bench.setLine(chip, 0, 5, 3);
        chip.request(0);
        way.go(chip, 5);
        Bench.due("the processor is behind the timers", chip.isRequested(0), false);
        Bench.due("onTop", chip.onTop(), 0);
    }

    @Says(promise = 0, words = "a beat less is left; with none left, the line is not requested any more")
    static void anotherRequestWhileItIsEnteredIsTheSame(Way way) {
        Tickstation chip = entering(way, 3);
        chip.request(5);
        way.go(chip, 2);
        Bench.due("isRequested", chip.isRequested(5), false);
        way.go(chip, 13);
        Bench.due("handled", chip.handled(5), 1);
        Bench.due("processor", chip.processor(), 'i');
    }

    // ---- in a handler

    @Says(promise = 0, words = "In a handler: if the first line is more urgent than the line on top, it enters this with 4 beats left")
    static void nests(Way way) {
        Tickstation chip = Bench.inHandler(way, 5, 5, 10);
        ask(chip, 6, 4, 3);
        dueStates(way, chip, "eeeeh");
        Bench.due("onTop", chip.onTop(), 6);
        Bench.due("depth", chip.depth(), 2);
    }

    @Says(promise = 0, words = "In a handler: if the first line is more urgent than the line on top")
    static void aLineOfTheSameRankIsNotNested(Way way) {
        Tickstation chip = Bench.inHandler(way, 5, 5, 10);
        ask(chip, 0, 5, 3);
        dueStates(way, chip, "hhhhhhhhhe");
        Bench.due("chained", chip.chained(), 1);
    }

    @Says(promise = 0, words = "In a handler: if the first line is more urgent than the line on top")
    static void aLessUrgentLineIsNotNested(Way way) {
        Tickstation chip = Bench.inHandler(way, 5, 5, 10);
        ask(chip, 0, 6, 3);
        way.go(chip, 9);
        Bench.due("processor", chip.processor(), 'h');
        Bench.due("depth", chip.depth(), 1);
    }

    @Says(promise = 0, words = "In a handler: if the first line is more urgent than the line on top")
    static void theLineOnTopIsNotNestedInItself(Way way) {
        Tickstation chip = Bench.inHandler(way, 5, 5, 3);
        chip.request(5);
        dueStates(way, chip, "hheehhhx");
        Bench.due("handled", chip.handled(5), 2);
        Bench.due("chained", chip.chained(), 1);
    }

    @Says(promise = 0, words = "it enters this with 4 beats left; otherwise, a beat less is left of the handler on top")
    static void aHandlerInItsLastBeatWaits(Way way) {
        Tickstation chip = Bench.inHandler(way, 5, 5, 3);
        way.go(chip, 2);
        ask(chip, 6, 4, 1);
        dueStates(way, chip, "eeeehxxxhx");
        Bench.due("handled(5)", chip.handled(5), 1);
        Bench.due("handled(6)", chip.handled(6), 1);
    }

    @Says(promise = 0, words = "otherwise, a beat less is left of the handler on top")
    static void theHandlerBelowLosesNoBeats(Way way) {
        Tickstation chip = Bench.inHandler(way, 5, 5, 4);
        way.go(chip, 1);
        ask(chip, 6, 4, 9);
        way.go(chip, 5 + 9 + 3);
        Bench.due("processor", chip.processor(), 'h');
        Bench.due("onTop", chip.onTop(), 5);
        dueStates(way, chip, "hhx");
    }

    @Says(promise = 0, words = "with none left, it has ended, and is gone, its action is done, and then")
    static void theActionComesAheadOfTheFirstLine(Way way) {
        Tickstation chip = Bench.withLine(3, 7, 2);
        chip.setLine(5, 5, true);
        chip.setHandler(5, 1, 'q', 3);
        chip.request(5);
        dueStates(way, chip, "eeeeheeh");
        Bench.due("chained", chip.chained(), 1);
        Bench.due("onTop", chip.onTop(), 3);
    }

    @Says(promise = 0, words = "if there is a first line, and it is more urgent than that on top, or nothing is on top")
    static void theLeastUrgentLineIsChainedIfNothingIsOnTop(Way way) {
        Tickstation chip = Bench.inHandler(way, 5, 0, 3);
        ask(chip, 6, 7, 3);
        dueStates(way, chip, "hheeh");
        Bench.due("chained", chip.chained(), 1);
        Bench.due("onTop", chip.onTop(), 6);
        Bench.due("depth", chip.depth(), 1);
    }

    @Says(promise = 0, words = "if there is a first line, and it is more urgent than that on top")
    static void aMoreUrgentLineIsChainedAboveOneOnTop(Way way) {
        Tickstation chip = Bench.inHandler(way, 5, 5, 10);
        ask(chip, 6, 3, 2);
        way.go(chip, 5);
        ask(chip, 0, 4, 2);
        dueStates(way, chip, "heeh");
        Bench.due("chained", chip.chained(), 1);
        Bench.due("onTop", chip.onTop(), 0);
        Bench.due("depth", chip.depth(), 2);
    }

    @Says(promise = 0, words = "if there is a first line, and it is more urgent than that on top")
    static void aLineOfTheRankOnTopIsNotChained(Way way) {
        Tickstation chip = Bench.inHandler(way, 5, 5, 10);
        ask(chip, 6, 3, 2);
        way.go(chip, 5);
        ask(chip, 0, 5, 2);
        dueStates(way, chip, "hxxxh");
        Bench.due("chained", chip.chained(), 0);
        Bench.due("onTop", chip.onTop(), 5);
    }

    @Says(promise = 0, words = "it enters this with 2 beats left, which counts as chained; otherwise it exits, with 3 beats left")
    static void chainedIn2Beats(Way way) {
        Tickstation chip = Bench.inHandler(way, 5, 5, 1);
        ask(chip, 6, 6, 1);
        dueStates(way, chip, "eehxxxi");
    }

    @Says(promise = 0, words = "it enters this with 2 beats left, which counts as chained")
    static void arrivesLateWhileOneIsChained(Way way) {
        Tickstation chip = Bench.inHandler(way, 5, 5, 1);
        ask(chip, 6, 6, 1);
        way.go(chip, 2);
        ask(chip, 1, 1, 3);
        way.go(chip, 1);
        Bench.due("onTop", chip.onTop(), 1);
        Bench.due("late", chip.late(), 1);
        Bench.due("chained", chip.chained(), 1);
    }

    @Says(promise = 0, words = "otherwise it exits, with 3 beats left")
    static void exitsIn3Beats(Way way) {
        Tickstation chip = Bench.inHandler(way, 5, 5, 1);
        dueStates(way, chip, "xxxi");
    }

    // ---- exiting

    @Says(promise = 0, words = "Exiting: a beat less is left; with none left, it is in the handler on top, or idle without one.")
    static void exitsToTheHandlerOnTop(Way way) {
        Tickstation chip = Bench.inHandler(way, 5, 5, 2);
        ask(chip, 6, 4, 1);
        dueStates(way, chip, "eeeehxxxhhxxxi");
    }

    @Says(promise = 0, words = "Exiting: a beat less is left; with none left")
    static void entersNothingWhileItExits(Way way) {
        Tickstation chip = Bench.inHandler(way, 5, 5, 1);
        way.go(chip, 1);
        ask(chip, 0, 0, 1);
        dueStates(way, chip, "xxie");
        Bench.due("chained", chip.chained(), 0);
        Bench.due("late", chip.late(), 0);
    }

    @Says(promise = 0, words = "it is in the handler on top, or idle without one")
    static void nestsAgainBehindAnExit(Way way) {
        Tickstation chip = Bench.inHandler(way, 5, 5, 2);
        ask(chip, 6, 4, 1);
        way.go(chip, 6);
        Bench.due("processor", chip.processor(), 'x');
        chip.request(6);
        dueStates(way, chip, "xxheeeeh");
        Bench.due("depth", chip.depth(), 2);
    }

    // ---- urgency

    @Says(promise = 0, words = "A line is more urgent than another one if its rank is lower, as ranks are now")
    static void anotherRankOfTheLineOnTopNests(Way way) {
        Tickstation chip = Bench.inHandler(way, 5, 5, 10);
        ask(chip, 6, 5, 3);
        way.go(chip, 1);
        Bench.due("depth", chip.depth(), 1);
        chip.setLine(5, 6, true);
        dueStates(way, chip, "eeeeh");
        Bench.due("onTop", chip.onTop(), 6);
    }

    @Says(promise = 0, words = "A line is more urgent than another one if its rank is lower, as ranks are now")
    static void anotherRankOfTheLineOnTopKeepsOthersOut(Way way) {
        Tickstation chip = Bench.inHandler(way, 5, 5, 10);
        chip.setLine(5, 3, true);
        ask(chip, 6, 4, 3);
        dueStates(way, chip, "hhh");
    }

    @Says(promise = 0, words = "as ranks are now")
    static void anotherRankOfTheFirstLineNests(Way way) {
        Tickstation chip = Bench.inHandler(way, 5, 5, 10);
        ask(chip, 6, 6, 3);
        way.go(chip, 1);
        chip.setLine(6, 4, true);
        dueStates(way, chip, "e");
    }

    @Says(promise = 0, words = "as ranks are now")
    static void theLineOnTopMayBeEnteredAgainBelowAnotherRank(Way way) {
        Tickstation chip = Bench.inHandler(way, 5, 5, 10);
        ask(chip, 6, 4, 10);
        way.go(chip, 5);
        chip.request(5);
        chip.setLine(5, 3, true);
        dueStates(way, chip, "eeeeh");
        Bench.due("onTop", chip.onTop(), 5);
        Bench.due("depth", chip.depth(), 3);
    }

    @Says(promise = 0, words = "the line that is entered counts with its rank also if it is not enabled or requested any more")
    static void anEnteredLineCountsAlsoIfItIsNotEnabled(Way way) {
        Tickstation chip = entering(way, 1);
        chip.setLine(5, 5, false);
        ask(chip, 6, 6, 3);
        way.go(chip, 4);
        Bench.due("late", chip.late(), 0);
        Bench.due("onTop", chip.onTop(), 5);
        Bench.due("isRequested", chip.isRequested(5), false);
    }

    @Says(promise = 0, words = "the line that is entered counts with its rank also if it is not enabled or requested any more")
    static void aMoreUrgentLineThanOneThatIsNotEnabledArrivesLate(Way way) {
        Tickstation chip = entering(way, 1);
        chip.setLine(5, 5, false);
        ask(chip, 6, 4, 1);
        way.go(chip, 4);
        Bench.due("late", chip.late(), 1);
        Bench.due("onTop", chip.onTop(), 6);
        dueStates(way, chip, "xxxi");
        Bench.due("the other one", chip.isRequested(5), true);
    }

    @Says(promise = 0, words = "the line that is entered counts with its rank")
    static void anEnteredLineCountsWithTheRankOfNow(Way way) {
        Tickstation chip = entering(way, 1);
        ask(chip, 6, 5, 3);
        way.go(chip, 1);
        Bench.due("late", chip.late(), 0);
        chip.setLine(5, 6, true);
        way.go(chip, 1);
        Bench.due("late", chip.late(), 1);
    }

    // ---- the row of handlers

    @Says(promise = 0, words = "it has a row of handlers that were begun and not ended, the last one on top")
    static void oneHandlerOfEachRank(Way way) {
        Tickstation chip = new Tickstation();
        for (int line = 0; line < 8; line++) {
            ask(chip, line, 7 - line, 2);
            way.go(chip, 5);
            Bench.due("depth", chip.depth(), line + 1);
            Bench.due("onTop", chip.onTop(), line);
        }
        way.go(chip, 2);
        for (int line = 6; line >= 0; line--) {
            Bench.due("depth", chip.depth(), line + 1);
            Bench.due("onTop", chip.onTop(), line);
            way.go(chip, 5);
        }
        Bench.due("depth", chip.depth(), 0);
        way.go(chip, 3);
        Bench.due("processor", chip.processor(), 'i');
    }

    @Says(promise = 0, words = "it has a row of handlers that were begun and not ended, the last one on top")
    static void moreHandlersThanLines(Way way) {
        Tickstation chip = new Tickstation();
        for (int i = 0; i < 40; i++) {
            chip.setLine((i + 1) % 2, 7, true);
            ask(chip, i % 2, 6, 10);
            way.go(chip, 5);
            Bench.due("depth", chip.depth(), i + 1);
        }
        for (int i = 0; i < 39; i++) {
            chip.setLine((i + 1) % 2, 7, true);
            Bench.due("onTop", chip.onTop(), (i + 1) % 2);
            way.go(chip, 10);
            Bench.due("depth", chip.depth(), 39 - i);
            way.go(chip, 3);
        }
        Bench.due("handled(0)", chip.handled(0), 19);
        Bench.due("handled(1)", chip.handled(1), 20);
    }

    // ---- what is asked

    @Says(promise = 25, words = "Returns what the processor is.")
    static void eachStateInTurn(Way way) {
        Tickstation chip = Bench.withLine(5, 5, 1);
        chip.setSleep(1);
        dueStates(way, chip, "z");
        chip.request(5);
        dueStates(way, chip, "uieeeehxxxiz");
    }

    @Says(promise = 25, words = "Returns 'i', 'z', 'u', 'e', 'h' or 'x'.")
    static void isEnteringAlsoAboveAHandler(Way way) {
        Tickstation chip = Bench.inHandler(way, 5, 5, 9);
        ask(chip, 6, 4, 9);
        way.go(chip, 1);
        Bench.due("processor", chip.processor(), 'e');
        Bench.due("depth", chip.depth(), 1);
    }

    @Says(promise = 26, words = "Returns how many handlers were begun and not ended.")
    static void anEnteredLineIsNotBegun(Way way) {
        Tickstation chip = entering(way, 4);
        Bench.due("depth", chip.depth(), 0);
        way.go(chip, 1);
        Bench.due("depth", chip.depth(), 1);
    }

    @Says(promise = 26, words = "Returns the number of handlers.")
    static void anEndedHandlerIsGoneAsItExits(Way way) {
        Tickstation chip = Bench.inHandler(way, 5, 5, 2);
        way.go(chip, 1);
        Bench.due("in its last beat but one", chip.depth(), 1);
        way.go(chip, 1);
        Bench.due("as it exits", chip.depth(), 0);
    }

    @Says(promise = 27, words = "Returns the line whose handler is on top.")
    static void theOneBelowIsOnTopWhileItExits(Way way) {
        Tickstation chip = Bench.inHandler(way, 5, 5, 9);
        ask(chip, 6, 4, 1);
        way.go(chip, 4);
        Bench.due("while the other one is entered", chip.onTop(), 5);
        way.go(chip, 1);
        Bench.due("in the other one", chip.onTop(), 6);
        way.go(chip, 1);
        Bench.due("while it exits", chip.onTop(), 5);
    }

    @Says(promise = 27, words = "Returns the line.")
    static void theFirstAndTheLastLineOnTop(Way way) {
        Bench.due("onTop", Bench.inHandler(way, 0, 7, 2).onTop(), 0);
        Bench.due("onTop", Bench.inHandler(way, 7, 7, 2).onTop(), 7);
    }

    @Says(promise = 27, words = "Throws `NoSuchElementException` if there is none")
    static void nothingIsOnTopAheadOfTheFirstHandler(Way way) {
        Bench.dueThrown(new Tickstation(), Bench.NO_ELEMENT, Tickstation::onTop);
        Bench.dueThrown(entering(way, 4), Bench.NO_ELEMENT, Tickstation::onTop);
    }

    @Says(promise = 27, words = "Throws `NoSuchElementException` if there is none")
    static void nothingIsOnTopBehindTheLastHandler(Way way) {
        Tickstation chip = Bench.inHandler(way, 5, 5, 1);
        way.go(chip, 1);
        Bench.dueThrown(chip, Bench.NO_ELEMENT, Tickstation::onTop);
        way.go(chip, 10);
        Bench.dueThrown(chip, Bench.NO_ELEMENT, Tickstation::onTop);
    }

    @Says(promise = 29, words = "Returns how many late arrivals there were.")
    static void noLateArrivalsAtFirst() {
        Bench.due("late", new Tickstation().late(), 0);
    }

    @Says(promise = 29, words = "Returns the number of arrivals.")
    static void nestedAndChainedOnesAreNoLateArrivals(Way way) {
        Tickstation chip = Bench.inHandler(way, 5, 5, 3);
        ask(chip, 6, 4, 1);
        ask(chip, 7, 6, 1);
        way.go(chip, 40);
        Bench.due("handled", chip.handled(5) + chip.handled(6) + chip.handled(7), 3);
        Bench.due("late", chip.late(), 0);
    }

    @Says(promise = 30, words = "Returns how many handlers were chained.")
    static void noneChainedAtFirst() {
        Bench.due("chained", new Tickstation().chained(), 0);
    }

    @Says(promise = 30, words = "Returns the number of handlers.")
    static void countsAsItIsEntered(Way way) {
        Tickstation chip = Bench.inHandler(way, 5, 5, 2);
        ask(chip, 6, 6, 1);
        way.go(chip, 1);
        Bench.due("ahead of the end", chip.chained(), 0);
        way.go(chip, 1);
        Bench.due("at the end", chip.chained(), 1);
    }

    @Says(promise = 30, words = "Returns the number of handlers.")
    static void nestedAndLateOnesAreNotChained(Way way) {
        Tickstation chip = entering(way, 2);
        ask(chip, 6, 4, 10);
        way.go(chip, 4);
        ask(chip, 7, 3, 1);
        way.go(chip, 6);
        Bench.due("late", chip.late(), 1);
        Bench.due("handled(7)", chip.handled(7), 1);
        Bench.due("chained", chip.chained(), 0);
    }
}
