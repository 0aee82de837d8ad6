/** Lines: what the terms say of them, setLine, request, isRequested and handled. */
final class LineCases {
    private LineCases() {
    }

    // ---- as at first

    @Says(promise = 0, words = "There are the lines 0 to 7")
    static void eachOfEightLinesIsHandled(Way way) {
        for (int line = 0; line < 8; line++) {
            Tickstation chip = Bench.inHandler(way, line, 7, 2);
            Bench.due("onTop", chip.onTop(), line);
        }
    }

    @Says(promise = 0, words = "each enabled or not, not at first")
    static void noLineIsEnabledAtFirst(Way way) {
        Tickstation chip = new Tickstation();
        for (int line = 0; line < 8; line++) {
            chip.request(line);
        }
        way.go(chip, 50);
        Bench.due("processor", chip.processor(), 'i');
        for (int line = 0; line < 8; line++) {
            Bench.due("isRequested", chip.isRequested(line), true);
        }
    }

    @Says(promise = 0, words = "with a rank from 0 to 7, 7 at first, the lower the more urgent")
    static void eachRankIs7AtFirst() {
        Tickstation chip = new Tickstation();
        for (int line = 0; line < 8; line++) {
            Bench.due("setLine", chip.setLine(line, 0, false), 7);
        }
    }

    @Says(promise = 0, words = "and requested or not")
    static void noLineIsRequestedAtFirst(Way way) {
        Tickstation chip = new Tickstation();
        for (int line = 0; line < 8; line++) {
            Bench.due("isRequested", chip.isRequested(line), false);
            chip.setLine(line, 7, true);
        }
        way.go(chip, 50);
        Bench.due("processor", chip.processor(), 'i');
    }

    // ---- the first line

    @Says(promise = 0, words = "the first one is that with the lowest rank")
    static void theLowestRankIsFirst(Way way) {
        Tickstation chip = new Tickstation();
        Bench.setLine(chip, 0, 1, 2);
        Bench.setLine(chip, 7, 0, 2);
        chip.request(0);
        chip.request(7);
        way.go(chip, 5);
        Bench.due("onTop", chip.onTop(), 7);
    }

    @Says(promise = 0, words = "the first one is that with the lowest rank")
    static void rank6IsAheadOfRank7(Way way) {
        Tickstation chip = new Tickstation();
        Bench.setLine(chip, 2, 7, 2);
        Bench.setLine(chip, 3, 6, 2);
        chip.request(2);
        chip.request(3);
        way.go(chip, 5);
        Bench.due("onTop", chip.onTop(), 3);
    }

    @Says(promise = 0, words = "of several that with the lowest number")
    static void theLowestNumberOfARankIsFirst(Way way) {
        for (int rank = 0; rank < 8; rank += 7) {
            Tickstation chip = new Tickstation();
            for (int line = 7; line >= 3; line--) {
                Bench.setLine(chip, line, rank, 1);
                chip.request(line);
            }
            for (int line = 3; line < 8; line++) {
                way.go(chip, line == 3 ? 5 : 3);
                Bench.due("onTop", chip.onTop(), line);
            }
        }
    }

    @Says(promise = 0, words = "Of enabled lines that are requested")
    static void aLineThatIsNotEnabledIsNotFirst(Way way) {
        Tickstation chip = new Tickstation();
        Bench.setLine(chip, 5, 5, 2);
        chip.setLine(1, 0, false);
        chip.request(1);
        chip.request(5);
        way.go(chip, 5);
        Bench.due("onTop", chip.onTop(), 5);
        way.go(chip, 20);
        Bench.due("isRequested", chip.isRequested(1), true);
        Bench.due("handled", chip.handled(1), 0);
    }

    @Says(promise = 0, words = "Of enabled lines that are requested")
    static void aLineThatIsNotRequestedIsNotFirst(Way way) {
        Tickstation chip = new Tickstation();
        Bench.setLine(chip, 5, 5, 2);
        Bench.setLine(chip, 1, 0, 2);
        chip.request(5);
        way.go(chip, 5);
        Bench.due("onTop", chip.onTop(), 5);
        Bench.due("late", chip.late(), 0);
    }

    @Says(promise = 0, words = "Of enabled lines that are requested")
    static void aLineThatIsEnabledLaterIsFirstThen(Way way) {
        Tickstation chip = new Tickstation();
        chip.request(4);
        way.go(chip, 10);
        Bench.due("processor", chip.processor(), 'i');
        chip.setLine(4, 7, true);
        way.go(chip, 5);
        Bench.due("onTop", chip.onTop(), 4);
    }

    @Says(promise = 0, words = "Of enabled lines that are requested")
    static void aLineThatIsNotEnabledAnyMoreIsNotFirst(Way way) {
        Tickstation chip = Bench.withLine(4, 7, 2);
        chip.request(4);
        chip.setLine(4, 7, false);
        way.go(chip, 10);
        Bench.due("processor", chip.processor(), 'i');
    }

    // ---- setLine

    @Says(promise = 7, words = "Sets a line.")
    static void aRequestStaysAsTheLineIsSet() {
        Tickstation chip = new Tickstation();
        chip.request(3);
        chip.setLine(3, 2, true);
        Bench.due("isRequested", chip.isRequested(3), true);
        chip.setLine(3, 2, false);
        Bench.due("isRequested", chip.isRequested(3), true);
    }

    @Says(promise = 7, words = "`line`: the line, 0 to 7")
    static void theFirstAndTheLastLineAreSet(Way way) {
        Tickstation chip = new Tickstation();
        chip.setLine(0, 3, true);
        chip.setLine(7, 2, true);
        chip.request(0);
        chip.request(7);
        way.go(chip, 6);
        Bench.due("handled(7)", chip.handled(7), 1);
        way.go(chip, 3);
        Bench.due("handled(0)", chip.handled(0), 1);
    }

    @Says(promise = 7, words = "`rank`: its rank, 0 to 7")
    static void rank0(Way way) {
        Tickstation chip = Bench.inHandler(way, 6, 1, 9);
        Bench.setLine(chip, 7, 0, 9);
        chip.request(7);
        way.go(chip, 5);
        Bench.due("onTop", chip.onTop(), 7);
        Bench.due("setLine", chip.setLine(7, 7, true), 0);
    }

    @Says(promise = 7, words = "`rank`: its rank, 0 to 7")
    static void rank7(Way way) {
        Tickstation chip = Bench.inHandler(way, 6, 7, 9);
        Bench.due("onTop", chip.onTop(), 6);
        Bench.setLine(chip, 0, 7, 9);
        chip.request(0);
        way.go(chip, 5);
        Bench.due("not nested", chip.depth(), 1);
        Bench.due("setLine", chip.setLine(6, 0, true), 7);
    }

    @Says(promise = 7, words = "`isEnabled`: true if it is enabled")
    static void enabledAndNotAnyMore(Way way) {
        Tickstation chip = Bench.withLine(2, 7, 1);
        chip.request(2);
        way.go(chip, 9);
        Bench.due("handled", chip.handled(2), 1);
        chip.setLine(2, 7, false);
        chip.request(2);
        way.go(chip, 20);
        Bench.due("handled", chip.handled(2), 1);
    }

    @Says(promise = 7, words = "Returns the rank before.")
    static void answersTheRankBefore() {
        Tickstation chip = new Tickstation();
        Bench.due("as at first", chip.setLine(5, 0, true), 7);
        Bench.due("the lowest", chip.setLine(5, 4, false), 0);
        Bench.due("of one that is not enabled", chip.setLine(5, 7, false), 4);
        Bench.due("the highest", chip.setLine(5, 7, false), 7);
    }

    @Says(promise = 7, words = "Throws `IndexOutOfBoundsException` if there is no such line")
    static void noLineBelow0IsSet() {
        Bench.refused(Bench.NO_INDEX, chip -> chip.setLine(-1, 0, true));
        Bench.refused(Bench.NO_INDEX, chip -> chip.setLine(Integer.MIN_VALUE, 0, true));
    }

    @Says(promise = 7, words = "Throws `IndexOutOfBoundsException` if there is no such line")
    static void noLine8IsSet() {
        Bench.refused(Bench.NO_INDEX, chip -> chip.setLine(8, 0, true));
        Bench.refused(Bench.NO_INDEX, chip -> chip.setLine(Integer.MAX_VALUE, 0, true));
    }

    @Says(promise = 7, words = "Throws `IllegalArgumentException` if the rank is out of range")
    static void rankBelow0IsRefused() {
        Bench.refused(Bench.BAD, chip -> chip.setLine(6, -1, true));
        Bench.refused(Bench.BAD, chip -> chip.setLine(6, Integer.MIN_VALUE, true));
    }

    @Says(promise = 7, words = "Throws `IllegalArgumentException` if the rank is out of range")
    static void rank8IsRefused() {
        Bench.refused(Bench.BAD, chip -> chip.setLine(6, 8, true));
        Bench.refused(Bench.BAD, chip -> chip.setLine(6, Integer.MAX_VALUE, true));
    }

    @Says(promise = 0, words = "the exception that is listed first is thrown")
    static void noSuchLineComesBeforeTheRank() {
        Bench.refused(Bench.NO_INDEX, chip -> chip.setLine(8, 8, true));
        Bench.refused(Bench.NO_INDEX, chip -> chip.setLine(-1, -1, true));
    }

    // ---- request, isRequested

    @Says(promise = 11, words = "Requests a line.")
    static void requestsOneLineAlone() {
        for (int line = 0; line < 8; line++) {
            Tickstation chip = new Tickstation();
            chip.request(line);
            for (int other = 0; other < 8; other++) {
                Bench.due("isRequested", chip.isRequested(other), other == line);
            }
        }
    }

    @Says(promise = 11, words = "`line`: the line, 0 to 7")
    static void theFirstAndTheLastLineAreRequested() {
        Tickstation chip = new Tickstation();
        Bench.due("request(0)", chip.request(0), true);
        Bench.due("request(7)", chip.request(7), true);
    }

    @Says(promise = 11, words = "Returns false if it was requested already.")
    static void requestedAlready() {
        Tickstation chip = new Tickstation();
        Bench.due("the first", chip.request(4), true);
        Bench.due("the second", chip.request(4), false);
        Bench.due("the third", chip.request(4), false);
        Bench.due("isRequested", chip.isRequested(4), true);
        Bench.due("another one", chip.request(3), true);
    }

    @Says(promise = 11, words = "Returns false if it was requested already.")
    static void requestedAlreadyByATimer(Way way) {
        Tickstation chip = Bench.withTimer(2, 10, 10);
        way.go(chip, 10);
        Bench.due("request(2)", chip.request(2), false);
        Bench.due("request(6)", chip.request(6), false);
    }

    @Says(promise = 11, words = "Returns false if it was requested already.")
    static void requestedAlreadyWhileItIsEntered(Way way) {
        Tickstation chip = Bench.withLine(4, 7, 3);
        chip.request(4);
        way.go(chip, 4);
        Bench.due("entering", chip.request(4), false);
        way.go(chip, 1);
        Bench.due("begun", chip.request(4), true);
    }

    @Says(promise = 11, words = "Throws `IndexOutOfBoundsException` if there is no such line")
    static void noLineBelow0IsRequested() {
        Bench.refused(Bench.NO_INDEX, chip -> chip.request(-1));
        Bench.refused(Bench.NO_INDEX, chip -> chip.request(Integer.MIN_VALUE));
    }

    @Says(promise = 11, words = "Throws `IndexOutOfBoundsException` if there is no such line")
    static void noLine8IsRequested() {
        Bench.refused(Bench.NO_INDEX, chip -> chip.request(8));
        Bench.refused(Bench.NO_INDEX, chip -> chip.request(32));
        Bench.refused(Bench.NO_INDEX, chip -> chip.request(Integer.MAX_VALUE));
    }

    @Says(promise = 24, words = "Returns whether a line is requested.")
    static void isRequestedUntilItsHandlerBegins(Way way) {
        Tickstation chip = Bench.withLine(1, 7, 3);
        chip.request(1);
        way.go(chip, 4);
        Bench.due("entering", chip.isRequested(1), true);
        way.go(chip, 1);
        Bench.due("begun", chip.isRequested(1), false);
    }

    @Says(promise = 24, words = "Returns true if it is.")
    static void isRequestedAlsoIfItIsNotEnabled(Way way) {
        Tickstation chip = new Tickstation();
        chip.request(1);
        way.go(chip, 100);
        Bench.due("isRequested", chip.isRequested(1), true);
    }

    @Says(promise = 24, words = "`line`: the line, 0 to 7")
    static void theFirstAndTheLastLineAreAsked() {
        Tickstation chip = new Tickstation();
        chip.request(7);
        Bench.due("isRequested(0)", chip.isRequested(0), false);
        Bench.due("isRequested(7)", chip.isRequested(7), true);
        chip.request(0);
        Bench.due("isRequested(0)", chip.isRequested(0), true);
    }

    @Says(promise = 24, words = "Throws `IndexOutOfBoundsException` if there is no such line")
    static void noLineBelow0IsAsked() {
        Bench.refused(Bench.NO_INDEX, chip -> chip.isRequested(-1));
        Bench.refused(Bench.NO_INDEX, chip -> chip.isRequested(Integer.MIN_VALUE));
    }

    @Says(promise = 24, words = "Throws `IndexOutOfBoundsException` if there is no such line")
    static void noLine8IsAsked() {
        Bench.refused(Bench.NO_INDEX, chip -> chip.isRequested(8));
        Bench.refused(Bench.NO_INDEX, chip -> chip.isRequested(Integer.MAX_VALUE));
    }

    // ---- handled

    @Says(promise = 28, words = "Returns how often the handler of a line has ended.")
    static void beganIsNotEnded(Way way) {
        Tickstation chip = Bench.inHandler(way, 3, 7, 4);
        way.go(chip, 3);
        Bench.due("in its last beat but one", chip.handled(3), 0);
        way.go(chip, 1);
        Bench.due("ended", chip.handled(3), 1);
    }

    @Says(promise = 28, words = "Returns how often.")
    static void endedSeveralTimes(Way way) {
        Tickstation chip = Bench.withLine(3, 7, 1);
        chip.setHandler(3, 1, 'q', 3);
        chip.request(3);
        way.go(chip, 6);
        Bench.due("handled", chip.handled(3), 1);
        way.go(chip, 30);
        Bench.due("handled", chip.handled(3), 11);
        Bench.due("another one", chip.handled(2), 0);
    }

    @Says(promise = 28, words = "`line`: the line, 0 to 7")
    static void theFirstAndTheLastLineAreHandled(Way way) {
        for (int line = 0; line < 8; line += 7) {
            Tickstation chip = Bench.inHandler(way, line, 7, 1);
            way.go(chip, 1);
            Bench.due("handled", chip.handled(line), 1);
            Bench.due("the other one", chip.handled(7 - line), 0);
        }
    }

    @Says(promise = 28, words = "Throws `IndexOutOfBoundsException` if there is no such line")
    static void noLineBelow0IsHandled() {
        Bench.refused(Bench.NO_INDEX, chip -> chip.handled(-1));
        Bench.refused(Bench.NO_INDEX, chip -> chip.handled(Integer.MIN_VALUE));
    }

    @Says(promise = 28, words = "Throws `IndexOutOfBoundsException` if there is no such line")
    static void noLine8IsHandled() {
        Bench.refused(Bench.NO_INDEX, chip -> chip.handled(8));
        Bench.refused(Bench.NO_INDEX, chip -> chip.handled(Integer.MAX_VALUE));
    }
}
