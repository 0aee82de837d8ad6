/** Pins and the probe: what the terms say of them, setPin, pins, edges, edgeTime and edgePin. */
final class PinCases {
    private PinCases() {
    }

    private static Tickstation withPin(int timer, int pin, char action) {
        Tickstation chip = Bench.withTimer(timer, 10, 2);
        chip.setPin(timer, pin, action);
        return chip;
    }

    private static void dueEdge(Tickstation chip, int index, int time, int pin) {
        Bench.due("edgeTime(" + index + ")", chip.edgeTime(index), time);
        Bench.due("edgePin(" + index + ")", chip.edgePin(index), pin);
    }

    // ---- what a comparison does

    @Says(promise = 0, words = "its pin, if it has one, becomes high 's'")
    static void becomesHigh(Way way) {
        Tickstation chip = withPin(0, 3, 's');
        way.go(chip, 1);
        Bench.due("ahead of the comparison", chip.pins(), 0);
        way.go(chip, 1);
        Bench.due("in its beat", chip.pins(), 8);
    }

    @Says(promise = 0, words = "its pin, if it has one, becomes high 's'")
    static void aHighPinBecomesHighWithoutAnEdge(Way way) {
        Tickstation chip = withPin(0, 3, 's');
        Bench.due("edges", way.go(chip, 50), 1);
        Bench.due("pins", chip.pins(), 8);
    }

    @Says(promise = 0, words = "low 'c'")
    static void becomesLow(Way way) {
        Tickstation chip = withPin(0, 3, 's');
        way.go(chip, 2);
        chip.setPin(0, 3, 'c');
        Bench.due("edges", way.go(chip, 50), 1);
        Bench.due("pins", chip.pins(), 0);
        dueEdge(chip, 1, 12, 3);
    }

    @Says(promise = 0, words = "low 'c'")
    static void aLowPinBecomesLowWithoutAnEdge(Way way) {
        Tickstation chip = withPin(0, 3, 'c');
        Bench.due("edges", way.go(chip, 50), 0);
    }

    @Says(promise = 0, words = "or the other one 't'")
    static void becomesTheOtherOne(Way way) {
        Tickstation chip = withPin(0, 3, 't');
        way.go(chip, 2);
        Bench.due("pins", chip.pins(), 8);
        way.go(chip, 10);
        Bench.due("pins", chip.pins(), 0);
        way.go(chip, 10);
        Bench.due("pins", chip.pins(), 8);
    }

    @Says(promise = 0, words = "its pin, if it has one")
    static void aTimerWithoutAPinRequestsItsLine(Way way) {
        Tickstation chip = Bench.withTimer(0, 10, 2);
        way.go(chip, 2);
        Bench.due("edges", chip.edges(), 0);
        Bench.due("isRequested(0)", chip.isRequested(0), true);
    }

    @Says(promise = 0, words = "its pin, if it has one")
    static void aPinChangesNotWhenItsTimerOverflows(Way way) {
        Tickstation chip = Bench.withTimer(0, 5, 200);
        chip.setPin(0, 0, 't');
        Bench.due("edges", way.go(chip, 50), 0);
    }

    @Says(promise = 0, words = "and the line k is requested; when it overflows, the line 4 plus k is requested")
    static void eachTimerRequestsItsTwoLines(Way way) {
        for (int timer = 0; timer < 4; timer++) {
            Tickstation chip = Bench.withTimer(timer, 10, 2);
            way.go(chip, 2);
            for (int line = 0; line < 8; line++) {
                Bench.due("compared: isRequested(" + line + ")", chip.isRequested(line), line == timer);
            }
            way.go(chip, 8);
            for (int line = 0; line < 8; line++) {
                Bench.due("overflowed: isRequested(" + line + ")", chip.isRequested(line), line % 4 == timer);
            }
        }
    }

    @Says(promise = 0, words = "and the line k is requested")
    static void aRequestedLineStaysRequested(Way way) {
        Tickstation chip = Bench.withTimer(1, 10, 2);
        chip.request(1);
        chip.request(5);
        way.go(chip, 30);
        Bench.due("isRequested(1)", chip.isRequested(1), true);
        Bench.due("isRequested(5)", chip.isRequested(5), true);
    }

    // ---- pins and edges

    @Says(promise = 0, words = "There are the pins 0 to 7, low at first.")
    static void allPinsAreLowAtFirst() {
        Bench.due("pins", new Tickstation().pins(), 0);
    }

    @Says(promise = 0, words = "Each change of a pin is an edge")
    static void twoChangesOfOnePinInOneBeat(Way way) {
        Tickstation chip = withPin(0, 6, 's');
        Bench.setTimer(chip, 1, 10, 2);
        chip.setPin(1, 6, 'c');
        Bench.due("edges", way.go(chip, 2), 2);
        dueEdge(chip, 0, 2, 14);
        dueEdge(chip, 1, 2, 6);
        Bench.due("pins", chip.pins(), 0);
    }

    @Says(promise = 0, words = "the probe keeps the first 200")
    static void keeps199(Way way) {
        Tickstation chip = Bench.withPinThatChanges(7);
        way.go(chip, 199);
        dueEdge(chip, 0, 1, 15);
        dueEdge(chip, 198, 199, 15);
        Bench.dueThrown(chip, Bench.NO_ELEMENT, it -> it.edgeTime(199));
        Bench.dueThrown(chip, Bench.NO_ELEMENT, it -> it.edgePin(199));
    }

    @Says(promise = 0, words = "the probe keeps the first 200")
    static void keeps200(Way way) {
        Tickstation chip = Bench.withPinThatChanges(7);
        way.go(chip, 200);
        dueEdge(chip, 199, 200, 7);
        Bench.dueThrown(chip, Bench.NO_ELEMENT, it -> it.edgeTime(200));
        Bench.dueThrown(chip, Bench.NO_ELEMENT, it -> it.edgePin(200));
    }

    @Says(promise = 0, words = "the probe keeps the first 200")
    static void keepsNotThe201st(Way way) {
        Tickstation chip = Bench.withPinThatChanges(7);
        way.go(chip, 201);
        Bench.due("edges", chip.edges(), 201);
        dueEdge(chip, 0, 1, 15);
        dueEdge(chip, 199, 200, 7);
        Bench.dueThrown(chip, Bench.NO_ELEMENT, it -> it.edgeTime(200));
        Bench.dueThrown(chip, Bench.NO_ELEMENT, it -> it.edgePin(200));
    }

    @Says(promise = 0, words = "the probe keeps the first 200")
    static void keepsAsManyOfTheEdgesOfOneBeatAsThereIsRoomFor(Way way) {
        Tickstation chip = Bench.withPinThatChanges(7);
        way.go(chip, 199);
        Bench.setTimer(chip, 1, 1, 1);
        chip.setPin(1, 0, 't');
        Bench.due("edges", way.go(chip, 1), 2);
        dueEdge(chip, 199, 200, 7);
        Bench.due("the other one changed too", chip.pins(), 1);
        Bench.dueThrown(chip, Bench.NO_ELEMENT, it -> it.edgeTime(200));
    }

    // ---- setPin

    @Says(promise = 5, words = "Sets what a timer does with a pin when it compares.")
    static void anotherPinStandsAsItWas(Way way) {
        Tickstation chip = withPin(0, 3, 's');
        way.go(chip, 2);
        chip.setPin(0, 4, 's');
        Bench.due("as it is set", chip.pins(), 8);
        way.go(chip, 10);
        Bench.due("pins", chip.pins(), 24);
    }

    @Says(promise = 5, words = "`timer`: the timer, 0 to 3")
    static void theFirstAndTheLastTimerHaveAPin(Way way) {
        Tickstation chip = withPin(0, 1, 's');
        Bench.setTimer(chip, 3, 10, 2);
        chip.setPin(3, 2, 's');
        way.go(chip, 2);
        Bench.due("pins", chip.pins(), 6);
        dueEdge(chip, 0, 2, 9);
        dueEdge(chip, 1, 2, 10);
    }

    @Says(promise = 5, words = "`pin`: the pin, 0 to 7")
    static void pin0(Way way) {
        Tickstation chip = withPin(2, 0, 't');
        way.go(chip, 12);
        dueEdge(chip, 0, 2, 8);
        dueEdge(chip, 1, 12, 0);
    }

    @Says(promise = 5, words = "`pin`: the pin, 0 to 7")
    static void pin7(Way way) {
        Tickstation chip = withPin(2, 7, 't');
        way.go(chip, 2);
        Bench.due("pins", chip.pins(), 128);
        way.go(chip, 10);
        dueEdge(chip, 0, 2, 15);
        dueEdge(chip, 1, 12, 7);
    }

    @Says(promise = 5, words = "'s', 'c', 't', or 'n' for nothing")
    static void nothing(Way way) {
        Tickstation chip = withPin(0, 3, 's');
        way.go(chip, 2);
        chip.setPin(0, 3, 'n');
        Bench.due("edges", way.go(chip, 50), 0);
        Bench.due("pins", chip.pins(), 8);
        Bench.due("isRequested", chip.isRequested(0), true);
    }

    @Says(promise = 5, words = "Throws `IndexOutOfBoundsException` if there is no such timer or pin")
    static void noTimerBelow0HasAPin() {
        Bench.refused(Bench.NO_INDEX, chip -> chip.setPin(-1, 0, 's'));
        Bench.refused(Bench.NO_INDEX, chip -> chip.setPin(Integer.MIN_VALUE, 0, 's'));
    }

    @Says(promise = 5, words = "Throws `IndexOutOfBoundsException` if there is no such timer or pin")
    static void noTimer4HasAPin() {
        Bench.refused(Bench.NO_INDEX, chip -> chip.setPin(4, 0, 's'));
        Bench.refused(Bench.NO_INDEX, chip -> chip.setPin(Integer.MAX_VALUE, 0, 's'));
    }

    @Says(promise = 5, words = "Throws `IndexOutOfBoundsException` if there is no such timer or pin")
    static void noPinBelow0() {
        Bench.refused(Bench.NO_INDEX, chip -> chip.setPin(0, -1, 'c'));
        Bench.refused(Bench.NO_INDEX, chip -> chip.setPin(0, -1, 'n'));
        Bench.refused(Bench.NO_INDEX, chip -> chip.setPin(0, Integer.MIN_VALUE, 'c'));
    }

    @Says(promise = 5, words = "Throws `IndexOutOfBoundsException` if there is no such timer or pin")
    static void noPin8() {
        Bench.refused(Bench.NO_INDEX, chip -> chip.setPin(0, 8, 'c'));
        Bench.refused(Bench.NO_INDEX, chip -> chip.setPin(0, 8, 'n'));
        Bench.refused(Bench.NO_INDEX, chip -> chip.setPin(0, Integer.MAX_VALUE, 'c'));
    }

    @Says(promise = 5, words = "Throws `IllegalArgumentException` if there is no such action")
    static void otherActionsAreRefused() {
        String others = "SCTN pxqfrou0";
        for (int i = 0; i < others.length(); i++) {
            char action = others.charAt(i);
            Bench.refused(Bench.BAD, chip -> chip.setPin(0, 7, action));
        }
        Bench.refused(Bench.BAD, chip -> chip.setPin(0, 7, (char) 0));
        Bench.refused(Bench.BAD, chip -> chip.setPin(0, 7, (char) 65535));
        Bench.refused(Bench.BAD, chip -> chip.setPin(0, 7, (char) ('s' + 256)));
    }

    @Says(promise = 0, words = "the exception that is listed first is thrown")
    static void noSuchTimerOrPinComesBeforeTheAction() {
        Bench.refused(Bench.NO_INDEX, chip -> chip.setPin(4, 0, 'x'));
        Bench.refused(Bench.NO_INDEX, chip -> chip.setPin(0, 8, 'x'));
        Bench.refused(Bench.NO_INDEX, chip -> chip.setPin(0, -1, 'x'));
    }

    @Says(promise = 5, words = "Returns the action before.")
    static void answersTheActionBefore() {
        Tickstation chip = new Tickstation();
        Bench.due("as at first", chip.setPin(3, 0, 's'), 'n');
        Bench.due("of another pin", chip.setPin(3, 7, 'c'), 's');
        Bench.due("setPin", chip.setPin(3, 7, 't'), 'c');
        Bench.due("setPin", chip.setPin(3, 7, 'n'), 't');
        Bench.due("setPin", chip.setPin(3, 7, 'n'), 'n');
        Bench.due("of another timer", chip.setPin(0, 7, 'n'), 'n');
    }

    // ---- what is asked of pins and edges

    @Says(promise = 20, words = "Returns the levels of all pins.")
    static void allPinsHigh(Way way) {
        Tickstation chip = new Tickstation();
        for (int pin = 0; pin < 8; pin++) {
            chip.setHandler(pin, 1, 'p', pin);
            chip.setLine(pin, pin, true);
            chip.request(pin);
        }
        way.go(chip, 6 + 7 * 3);
        Bench.due("pins", chip.pins(), 255);
    }

    @Says(promise = 20, words = "Returns the high ones as bits.")
    static void eachPinIsABit(Way way) {
        for (int pin = 0; pin < 8; pin++) {
            Tickstation chip = withPin(0, pin, 's');
            way.go(chip, 2);
            Bench.due("pins", chip.pins(), 1 << pin);
        }
    }

    @Says(promise = 21, words = "Returns how many edges there were.")
    static void noEdgesAtFirst() {
        Bench.due("edges", new Tickstation().edges(), 0);
    }

    @Says(promise = 21, words = "Returns the number of edges.")
    static void countsEdgesBeyondTheKeptOnes(Way way) {
        Tickstation chip = Bench.withPinThatChanges(0);
        way.go(chip, 450);
        Bench.due("edges", chip.edges(), 450);
    }

    @Says(promise = 21, words = "Returns how many edges there were.")
    static void countsRisingAndFallingEdges(Way way) {
        Tickstation chip = withPin(0, 3, 't');
        way.go(chip, 12);
        Bench.due("edges", chip.edges(), 2);
    }

    @Says(promise = 22, words = "Returns the time of an edge.")
    static void edgesHaveTheTimeOfTheirBeat(Way way) {
        Tickstation chip = withPin(0, 3, 't');
        way.go(chip, 39);
        for (int i = 0; i < 4; i++) {
            Bench.due("edgeTime", chip.edgeTime(i), 2 + 10 * i);
        }
    }

    @Says(promise = 22, words = "Returns the time.")
    static void anEdgeOfTheFirstBeatHasTheTime1(Way way) {
        Tickstation chip = Bench.withPinThatChanges(0);
        way.go(chip, 1);
        Bench.due("edgeTime", chip.edgeTime(0), 1);
    }

    @Says(promise = 22, words = "`index`: the index, from 0")
    static void timesOfTheFirstAndTheLastEdge(Way way) {
        Tickstation chip = withPin(0, 3, 't');
        way.go(chip, 25);
        Bench.due("edgeTime(0)", chip.edgeTime(0), 2);
        Bench.due("edgeTime(2)", chip.edgeTime(2), 22);
        Bench.dueThrown(chip, Bench.NO_ELEMENT, it -> it.edgeTime(3));
    }

    @Says(promise = 22, words = "Throws `NoSuchElementException` if there is none")
    static void noTimeOfNoEdge() {
        Bench.dueThrown(new Tickstation(), Bench.NO_ELEMENT, it -> it.edgeTime(0));
        Bench.refused(Bench.NO_ELEMENT, chip -> chip.edgeTime(chip.edges()));
        Bench.refused(Bench.NO_ELEMENT, chip -> chip.edgeTime(199));
    }

    @Says(promise = 22, words = "Throws `NoSuchElementException` if there is none")
    static void noTimeOfAnEdgeBelow0() {
        Bench.refused(Bench.NO_ELEMENT, chip -> chip.edgeTime(-1));
        Bench.refused(Bench.NO_ELEMENT, chip -> chip.edgeTime(Integer.MIN_VALUE));
    }

    @Says(promise = 22, words = "or it was not kept")
    static void noTimeOfAnEdgeThatWasNotKept(Way way) {
        Tickstation chip = Bench.withPinThatChanges(0);
        way.go(chip, 450);
        Bench.due("edgeTime(199)", chip.edgeTime(199), 200);
        Bench.dueThrown(chip, Bench.NO_ELEMENT, it -> it.edgeTime(200));
        Bench.dueThrown(chip, Bench.NO_ELEMENT, it -> it.edgeTime(449));
        Bench.dueThrown(chip, Bench.NO_ELEMENT, it -> it.edgeTime(450));
        Bench.dueThrown(chip, Bench.NO_ELEMENT, it -> it.edgeTime(Integer.MAX_VALUE));
    }

    @Says(promise = 23, words = "Returns the pin of an edge.")
    static void pinsOfEdgesOfOneBeatRise(Way way) {
        Tickstation chip = withPin(3, 0, 's');
        Bench.setTimer(chip, 0, 10, 2);
        chip.setPin(0, 5, 's');
        way.go(chip, 2);
        Bench.due("of the timer 0", chip.edgePin(0), 13);
        Bench.due("of the timer 3", chip.edgePin(1), 8);
    }

    @Says(promise = 23, words = "Returns the pin, and 8 more if it became high.")
    static void highAndLowOfEachPin(Way way) {
        for (int pin = 0; pin < 8; pin++) {
            Tickstation chip = Bench.withPinThatChanges(pin);
            way.go(chip, 2);
            Bench.due("became high", chip.edgePin(0), 8 + pin);
            Bench.due("became low", chip.edgePin(1), pin);
        }
    }

    @Says(promise = 23, words = "`index`: the index, from 0")
    static void pinsOfTheFirstAndTheLastEdge(Way way) {
        Tickstation chip = withPin(0, 3, 't');
        way.go(chip, 25);
        Bench.due("edgePin(0)", chip.edgePin(0), 11);
        Bench.due("edgePin(2)", chip.edgePin(2), 11);
        Bench.dueThrown(chip, Bench.NO_ELEMENT, it -> it.edgePin(3));
    }

    @Says(promise = 23, words = "Throws `NoSuchElementException` if there is none")
    static void noPinOfNoEdge() {
        Bench.dueThrown(new Tickstation(), Bench.NO_ELEMENT, it -> it.edgePin(0));
        Bench.refused(Bench.NO_ELEMENT, chip -> chip.edgePin(chip.edges()));
        Bench.refused(Bench.NO_ELEMENT, chip -> chip.edgePin(199));
    }

    @Says(promise = 23, words = "Throws `NoSuchElementException` if there is none")
    static void noPinOfAnEdgeBelow0() {
        Bench.refused(Bench.NO_ELEMENT, chip -> chip.edgePin(-1));
        Bench.refused(Bench.NO_ELEMENT, chip -> chip.edgePin(Integer.MIN_VALUE));
    }

    @Says(promise = 23, words = "or it was not kept")
    static void noPinOfAnEdgeThatWasNotKept(Way way) {
        Tickstation chip = Bench.withPinThatChanges(0);
        way.go(chip, 450);
        Bench.due("edgePin(199)", chip.edgePin(199), 0);
        Bench.dueThrown(chip, Bench.NO_ELEMENT, it -> it.edgePin(200));
        Bench.dueThrown(chip, Bench.NO_ELEMENT, it -> it.edgePin(449));
        Bench.dueThrown(chip, Bench.NO_ELEMENT, it -> it.edgePin(450));
        Bench.dueThrown(chip, Bench.NO_ELEMENT, it -> it.edgePin(Integer.MAX_VALUE));
    }
}
