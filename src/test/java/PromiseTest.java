import java.util.NoSuchElementException;

/**
 * Each promise of the document in small runs whose answers were worked out by hand: ordinary ones,
 * the edges that the document names, and wrong arguments. What goes on is tried both from event to
 * event and beat by beat.
 */
public final class PromiseTest {
    private static int promise = 0;
    private static int checks = 0;
    private static int wrong = 0;

    private static final Class<?> NO_INDEX = IndexOutOfBoundsException.class;
    private static final Class<?> BAD = IllegalArgumentException.class;
    private static final Class<?> NO_ELEMENT = NoSuchElementException.class;
    private static final Class<?> NO_SHARE = ArithmeticException.class;

    private PromiseTest() {
    }

    private interface Call {
        Object answer();
    }

    private static void due(String what, Object got, Object want) {
        checks++;
        if (!got.equals(want)) {
            wrong++;
            System.out.println("promise " + promise + ": " + what + " answered " + got + ", due is " + want);
        }
    }

    private static void thrown(String what, Class<?> want, Call call) {
        Object got;
        try {
            got = call.answer();
        } catch (RuntimeException e) {
            got = e.getClass();
        }
        due(what, got, want);
    }

    private static void go(Tickstation chip, int beats, boolean byBeats) {
        if (byBeats) {
            chip.runByBeats(beats);
        } else {
            chip.run(beats);
        }
    }

    /** A timer 0 that overflows every `period` beats and does nothing else. */
    private static Tickstation withTimer(int period) {
        Tickstation chip = new Tickstation();
        chip.setTimer(0, 0, period, 200, 'r');
        chip.start(0, true);
        return chip;
    }

    /** A chip whose line 0, of the rank 3, is enabled and has a handler. */
    private static Tickstation withHandler(int beats, char action, int target) {
        Tickstation chip = new Tickstation();
        chip.setLine(0, 3, true);
        chip.setHandler(0, beats, action, target);
        return chip;
    }

    // ---- 1: a new object

    private static void newObject() {
        Tickstation chip = new Tickstation();
        due("time", chip.time(), 0);
        for (int i = 0; i < 4; i++) {
            int at = i;
            due("ticks", chip.ticks(i), 0);
            due("count", chip.count(i), 0);
            due("isRunning", chip.isRunning(at), false);
        }
        for (int i = 0; i < 8; i++) {
            due("isRequested", chip.isRequested(i), false);
            due("handled", chip.handled(i), 0);
        }
        due("pins", chip.pins(), 0);
        due("edges", chip.edges(), 0);
        due("processor", chip.processor(), 'i');
        due("depth", chip.depth(), 0);
        due("late", chip.late(), 0);
        due("chained", chip.chained(), 0);
        due("resets", chip.resets(), 0);
        due("energy", chip.energy(), 0L);
        thrown("edgeTime", NO_ELEMENT, () -> chip.edgeTime(0));
        thrown("edgePin", NO_ELEMENT, () -> chip.edgePin(0));
        thrown("onTop", NO_ELEMENT, chip::onTop);
        thrown("lastReset", NO_ELEMENT, chip::lastReset);
        thrown("toEvent", NO_ELEMENT, chip::toEvent);
        thrown("asleepShare", NO_SHARE, chip::asleepShare);
        thrown("meanEnergy", NO_SHARE, chip::meanEnergy);
        due("isConsistent", chip.isConsistent(), true);
        due("feed", chip.feed(), false);
    }

    private static void firstSettings() {
        Tickstation chip = new Tickstation();
        due("run", chip.run(7), 0);
        for (int i = 0; i < 4; i++) {
            due("ticks of a divider 1", chip.ticks(i), 7);
        }
        due("setClock", chip.setClock(2, 0, 2, true), 1);
        due("setTimer", chip.setTimer(0, 0, 10, 10, 'r'), 10);
        due("link", chip.link(3, 0), -1);
        due("setPin", chip.setPin(1, 0, 'n'), 'n');
        due("setLine", chip.setLine(7, 7, false), 7);
        due("setHandler", chip.setHandler(3, 1, 'n', 0), 1);
        due("setSleep", chip.setSleep(0), 0);
        due("setWatchdog", chip.setWatchdog(-1, 0, 1), false);
        due("start", chip.start(2, true), false);
        due("toEvent of a timer as at first", chip.toEvent(), 10);
        chip.run(10);
        due("compared", chip.isRequested(2), true);
        due("overflowed", chip.isRequested(6), true);
        due("still runs", chip.isRunning(2), true);
        due("no pin", chip.edges(), 0);
        due("no line enabled", chip.processor(), 'i');
    }

    // ---- 2: setClock

    private static void setClock(boolean byBeats) {
        Tickstation chip = new Tickstation();
        due("setClock", chip.setClock(1, 0, 5, true), 1);
        go(chip, 4, byBeats);
        due("ticks of 4 by 5", chip.ticks(1), 0);
        go(chip, 1, byBeats);
        due("ticks of 5 by 5", chip.ticks(1), 1);
        go(chip, 3, byBeats);
        due("setClock", chip.setClock(1, 0, 5, false), 5);
        go(chip, 10, byBeats);
        due("ticks while off", chip.ticks(1), 1);
        due("setClock", chip.setClock(1, 0, 5, true), 5);
        go(chip, 1, byBeats);
        due("ticks of a count of 4", chip.ticks(1), 1);
        go(chip, 1, byBeats);
        due("ticks of a count that stayed", chip.ticks(1), 2);
        go(chip, 4, byBeats);
        due("setClock below the count", chip.setClock(1, 0, 2, true), 5);
        go(chip, 1, byBeats);
        due("ticks at once", chip.ticks(1), 3);
        go(chip, 4, byBeats);
        due("ticks by 2", chip.ticks(1), 5);
    }

    private static void clockSources(boolean byBeats) {
        Tickstation chip = new Tickstation();
        chip.setClock(1, 0, 2, true);
        chip.setClock(2, 1, 3, true);
        chip.setClock(3, 2, 64, true);
        go(chip, 384, byBeats);
        due("ticks of 384 by 2", chip.ticks(1), 192);
        due("ticks of 384 by 6", chip.ticks(2), 64);
        due("ticks of 384 by 384", chip.ticks(3), 1);
        chip.setClock(3, 0, 1, true);
        go(chip, 5, byBeats);
        due("ticks of another source", chip.ticks(3), 6);
        chip.setClock(1, 0, 2, false);
        go(chip, 12, byBeats);
        due("ticks behind a stopped source", chip.ticks(2), 64);
        due("ticks of the clock 0", chip.ticks(0), 401);
    }

    private static void wrongClocks() {
        Tickstation chip = new Tickstation();
        thrown("clock 0", NO_INDEX, () -> chip.setClock(0, 0, 1, true));
        thrown("clock 4", NO_INDEX, () -> chip.setClock(4, 0, 1, true));
        thrown("clock -1", NO_INDEX, () -> chip.setClock(-1, 0, 1, true));
        thrown("source -1", NO_INDEX, () -> chip.setClock(2, -1, 1, true));
        thrown("itself", NO_INDEX, () -> chip.setClock(2, 2, 1, true));
        thrown("a higher source", NO_INDEX, () -> chip.setClock(2, 3, 1, true));
        thrown("divider 0", BAD, () -> chip.setClock(1, 0, 0, false));
        thrown("divider 65", BAD, () -> chip.setClock(1, 0, 65, false));
        thrown("both wrong", NO_INDEX, () -> chip.setClock(4, 0, 0, false));
        thrown("source and divider wrong", NO_INDEX, () -> chip.setClock(1, 1, 65, false));
        due("nothing changed", chip.setClock(1, 0, 64, true), 1);
        due("divider 64", chip.setClock(1, 0, 1, true), 64);
        due("setClock", chip.setClock(3, 2, 1, true), 1);
    }

    // ---- 3: setTimer

    private static void setTimer(boolean byBeats) {
        Tickstation chip = new Tickstation();
        chip.setClock(2, 0, 3, true);
        due("setTimer", chip.setTimer(1, 2, 4, 2, 'r'), 10);
        chip.start(1, true);
        go(chip, 5, byBeats);
        due("count", chip.count(1), 1);
        due("not compared", chip.isRequested(1), false);
        go(chip, 1, byBeats);
        due("count", chip.count(1), 2);
        due("compared", chip.isRequested(1), true);
        due("not overflowed", chip.isRequested(5), false);
        go(chip, 5, byBeats);
        due("count", chip.count(1), 3);
        due("setTimer", chip.setTimer(1, 0, 2, 200, 'o'), 4);
        due("the count stays", chip.count(1), 3);
        due("it still runs", chip.isRunning(1), true);
        go(chip, 1, byBeats);
        due("overflows beyond the period", chip.isRequested(5), true);
        due("count", chip.count(1), 0);
        due("fires once", chip.isRunning(1), false);
        go(chip, 9, byBeats);
        due("count of a stopped one", chip.count(1), 0);
    }

    private static void comparing(boolean byBeats) {
        Tickstation chip = new Tickstation();
        chip.setTimer(3, 0, 5, 6, 'r');
        chip.start(3, true);
        go(chip, 50, byBeats);
        due("never compares above the period", chip.isRequested(3), false);
        due("overflows", chip.isRequested(7), true);
        chip.setTimer(2, 0, 5, 5, 'r');
        chip.setPin(2, 4, 't');
        chip.start(2, true);
        go(chip, 5, byBeats);
        due("compares as it overflows", chip.edges(), 1);
        due("compares as it overflows", chip.isRequested(2) && chip.isRequested(6), true);
        go(chip, 3, byBeats);
        chip.setTimer(2, 0, 9, 3, 'r');
        go(chip, 6, byBeats);
        due("does not compare at the count that it had", chip.edges(), 1);
        due("count", chip.count(2), 0);
        go(chip, 3, byBeats);
        due("compares in the next round", chip.edges(), 2);
    }

    private static void wrongTimers() {
        Tickstation chip = new Tickstation();
        thrown("timer -1", NO_INDEX, () -> chip.setTimer(-1, 0, 1, 1, 'r'));
        thrown("timer 4", NO_INDEX, () -> chip.setTimer(4, 0, 1, 1, 'r'));
        thrown("clock -1", NO_INDEX, () -> chip.setTimer(0, -1, 1, 1, 'r'));
        thrown("clock 4", NO_INDEX, () -> chip.setTimer(0, 4, 1, 1, 'r'));
        thrown("period 0", BAD, () -> chip.setTimer(0, 0, 0, 1, 'r'));
        thrown("period 201", BAD, () -> chip.setTimer(0, 0, 201, 1, 'r'));
        thrown("compare 0", BAD, () -> chip.setTimer(0, 0, 1, 0, 'r'));
        thrown("compare 201", BAD, () -> chip.setTimer(0, 0, 1, 201, 'r'));
        thrown("mode x", BAD, () -> chip.setTimer(0, 0, 1, 1, 'x'));
        thrown("mode R", BAD, () -> chip.setTimer(0, 0, 1, 1, 'R'));
        thrown("clock and mode wrong", NO_INDEX, () -> chip.setTimer(0, 4, 1, 1, 'x'));
        due("nothing changed", chip.setTimer(0, 3, 200, 200, 'o'), 10);
        due("period 200", chip.setTimer(0, 0, 1, 1, 'r'), 200);
    }

    // ---- 4: link

    private static void linked(boolean byBeats) {
        Tickstation chip = withTimer(3);
        chip.setTimer(2, 0, 2, 1, 'r');
        due("link", chip.link(2, 0), -1);
        chip.start(2, true);
        chip.setTimer(3, 0, 2, 1, 'r');
        due("link", chip.link(3, 2), -1);
        chip.start(3, true);
        go(chip, 2, byBeats);
        due("count", chip.count(2), 0);
        go(chip, 1, byBeats);
        due("counts in the same beat", chip.count(2), 1);
        due("compares", chip.isRequested(2), true);
        due("no overflow of the second, so none counted of it", chip.count(3), 0);
        go(chip, 3, byBeats);
        due("overflows in the same beat", chip.count(2), 0);
        due("counts in the same beat, two on", chip.count(3), 1);
        chip.start(0, false);
        go(chip, 20, byBeats);
        due("none behind a stopped one", chip.count(2), 0);
        due("link", chip.link(2, 1), 0);
        due("link", chip.link(2, -1), 1);
        go(chip, 1, byBeats);
        due("counts its clock again", chip.count(2), 1);
        due("link", chip.link(3, 2), 2);
        chip.setTimer(3, 0, 9, 9, 'r');
        due("setTimer linked it to none", chip.link(3, -1), -1);
    }

    private static void wrongLinks() {
        Tickstation chip = new Tickstation();
        thrown("timer -1", NO_INDEX, () -> chip.link(-1, -1));
        thrown("timer 4", NO_INDEX, () -> chip.link(4, 0));
        thrown("to itself", BAD, () -> chip.link(2, 2));
        thrown("to a higher one", BAD, () -> chip.link(2, 3));
        thrown("to -2", BAD, () -> chip.link(2, -2));
        thrown("0 to 0", BAD, () -> chip.link(0, 0));
        thrown("to 4", BAD, () -> chip.link(3, 4));
        thrown("both wrong", NO_INDEX, () -> chip.link(4, 9));
        due("0 to none", chip.link(0, -1), -1);
        due("nothing changed", chip.link(2, 1), -1);
    }

    // ---- 5: setPin

    private static void setPin(boolean byBeats) {
        Tickstation chip = new Tickstation();
        for (int timer = 0; timer < 4; timer++) {
            chip.setTimer(timer, 0, 2, 1 + timer % 2, 'r');
            chip.start(timer, true);
        }
        due("setPin", chip.setPin(0, 7, 's'), 'n');
        due("setPin", chip.setPin(1, 7, 'c'), 'n');
        due("setPin", chip.setPin(2, 0, 't'), 'n');
        go(chip, 1, byBeats);
        due("pins", chip.pins(), 128 + 1);
        go(chip, 1, byBeats);
        due("pins", chip.pins(), 1);
        go(chip, 1, byBeats);
        due("pins", chip.pins(), 128);
        due("edges", chip.edges(), 5);
        due("setPin", chip.setPin(1, 6, 'c'), 'c');
        due("setPin", chip.setPin(2, 0, 'n'), 't');
        go(chip, 4, byBeats);
        due("no change, no edge", chip.edges(), 5);
        due("setPin", chip.setPin(0, 3, 's'), 's');
        go(chip, 2, byBeats);
        due("another pin", chip.pins(), 128 + 8);
    }

    private static void wrongPins() {
        Tickstation chip = new Tickstation();
        thrown("timer -1", NO_INDEX, () -> chip.setPin(-1, 0, 's'));
        thrown("timer 4", NO_INDEX, () -> chip.setPin(4, 0, 's'));
        thrown("pin -1", NO_INDEX, () -> chip.setPin(0, -1, 'n'));
        thrown("pin 8", NO_INDEX, () -> chip.setPin(0, 8, 'n'));
        thrown("action x", BAD, () -> chip.setPin(0, 0, 'x'));
        thrown("action S", BAD, () -> chip.setPin(0, 0, 'S'));
        thrown("both wrong", NO_INDEX, () -> chip.setPin(0, 8, 'x'));
        due("nothing changed", chip.setPin(0, 0, 's'), 'n');
        due("setPin", chip.setPin(0, 7, 'c'), 's');
    }

    // ---- 6: start

    private static void start(boolean byBeats) {
        Tickstation chip = new Tickstation();
        due("start", chip.start(3, true), false);
        due("start", chip.start(3, true), true);
        go(chip, 4, byBeats);
        due("count", chip.count(3), 4);
        due("start", chip.start(3, false), true);
        go(chip, 4, byBeats);
        due("the count stays", chip.count(3), 4);
        due("start", chip.start(3, true), false);
        go(chip, 6, byBeats);
        due("count", chip.count(3), 0);
        due("isRequested", chip.isRequested(7), true);
        due("another one", chip.isRunning(0), false);
        thrown("timer -1", NO_INDEX, () -> chip.start(-1, true));
        thrown("timer 4", NO_INDEX, () -> chip.start(4, true));
    }

    // ---- 7: setLine

    private static void setLine(boolean byBeats) {
        Tickstation chip = new Tickstation();
        chip.request(6);
        chip.request(2);
        chip.request(1);
        go(chip, 5, byBeats);
        due("none is enabled", chip.processor(), 'i');
        due("setLine", chip.setLine(6, 4, true), 7);
        due("setLine", chip.setLine(2, 4, true), 7);
        due("setLine", chip.setLine(1, 0, false), 7);
        go(chip, 5, byBeats);
        due("the lowest number of a rank", chip.onTop(), 2);
        due("setLine", chip.setLine(6, 3, true), 4);
        go(chip, 5, byBeats);
        due("nested by a rank as it is now", chip.onTop(), 6);
        due("depth", chip.depth(), 2);
        due("setLine", chip.setLine(1, 0, true), 0);
        due("setLine", chip.setLine(1, 0, false), 0);
        go(chip, 40, byBeats);
        due("not enabled", chip.handled(1), 0);
        due("still requested", chip.isRequested(1), true);
    }

    /** The line that is entered, and the one on top, count with their ranks as they are now. */
    private static void ranksNow(boolean byBeats) {
        Tickstation chip = new Tickstation();
        chip.setLine(3, 2, true);
        chip.request(3);
        go(chip, 1, byBeats);
        chip.setLine(3, 2, false);
        chip.setLine(5, 2, true);
        chip.request(5);
        go(chip, 2, byBeats);
        due("no late arrival of the same rank", chip.late(), 0);
        chip.setLine(3, 3, false);
        go(chip, 1, byBeats);
        due("a late arrival by a new rank", chip.late(), 1);
        go(chip, 1, byBeats);
        due("onTop", chip.onTop(), 5);
        due("the other one is requested still", chip.isRequested(3), true);
        due("the one that began is not", chip.isRequested(5), false);
        chip.setHandler(3, 1, 'n', 0);
        chip.setLine(3, 1, true);
        go(chip, 1, byBeats);
        due("nested", chip.processor(), 'e');
        chip.setLine(3, 1, false);
        go(chip, 4, byBeats);
        due("entered though it is not enabled any more", chip.onTop(), 3);
    }

    private static void wrongLines() {
        Tickstation chip = new Tickstation();
        thrown("line -1", NO_INDEX, () -> chip.setLine(-1, 0, true));
        thrown("line 8", NO_INDEX, () -> chip.setLine(8, 0, true));
        thrown("rank -1", BAD, () -> chip.setLine(0, -1, true));
        thrown("rank 8", BAD, () -> chip.setLine(0, 8, true));
        thrown("both wrong", NO_INDEX, () -> chip.setLine(8, 8, true));
        chip.request(0);
        chip.run(1);
        due("nothing changed", chip.processor(), 'i');
        due("rank 0", chip.setLine(7, 0, true), 7);
        due("rank 7", chip.setLine(7, 7, true), 0);
    }

    // ---- 8: setHandler

    private static void setHandler(boolean byBeats) {
        Tickstation chip = new Tickstation();
        chip.setLine(4, 3, true);
        due("setHandler", chip.setHandler(4, 10, 'p', 6), 1);
        chip.request(4);
        go(chip, 5, byBeats);
        due("begun", chip.onTop(), 4);
        due("setHandler", chip.setHandler(4, 60, 'p', 5), 10);
        go(chip, 9, byBeats);
        due("not ended", chip.handled(4), 0);
        go(chip, 1, byBeats);
        due("the beats that it had", chip.handled(4), 1);
        due("the action that it has now", chip.pins(), 32);
        due("processor", chip.processor(), 'x');
        go(chip, 3, byBeats);
        due("processor", chip.processor(), 'i');
        chip.request(4);
        go(chip, 64, byBeats);
        due("the new beats", chip.handled(4), 1);
        go(chip, 1, byBeats);
        due("the new beats", chip.handled(4), 2);
        due("the other level", chip.pins(), 0);
    }

    /** A handler of one beat ends 6 beats behind the request: entered, 4 beats of entry, 1 of its own. */
    private static void actions(boolean byBeats) {
        Tickstation started = withHandler(1, 's', 3);
        started.request(0);
        go(started, 5, byBeats);
        due("not yet", started.isRunning(3), false);
        go(started, 1, byBeats);
        due("s", started.isRunning(3), true);
        due("the energy of 6 beats and a timer", started.energy(), 31L);
        go(started, 4, byBeats);
        due("count", started.count(3), 4);

        Tickstation stopped = withHandler(1, 'x', 3);
        stopped.start(3, true);
        stopped.request(0);
        go(stopped, 6, byBeats);
        due("x", stopped.isRunning(3), false);
        due("the count stays", stopped.count(3), 6);

        Tickstation asked = withHandler(1, 'q', 7);
        asked.request(0);
        go(asked, 6, byBeats);
        due("q", asked.isRequested(7), true);
        due("exits", asked.processor(), 'x');

        Tickstation asksItself = withHandler(1, 'q', 0);
        asksItself.request(0);
        go(asksItself, 6, byBeats);
        due("chained by its own action", asksItself.chained(), 1);
        go(asksItself, 15, byBeats);
        due("each 3 beats again", asksItself.handled(0), 6);

        Tickstation fed = withHandler(1, 'f', 0);
        fed.setWatchdog(0, 3, 10);
        fed.request(0);
        go(fed, 6, byBeats);
        due("f", fed.resets(), 0);
        go(fed, 9, byBeats);
        due("fed", fed.resets(), 0);
        go(fed, 1, byBeats);
        due("fed", fed.resets(), 1);

        Tickstation none = withHandler(1, 'n', 0);
        none.request(0);
        go(none, 9, byBeats);
        due("n", none.handled(0), 1);
        due("n", none.edges(), 0);
        due("n", none.processor(), 'i');
    }

    private static void wrongHandlers() {
        Tickstation chip = new Tickstation();
        thrown("line -1", NO_INDEX, () -> chip.setHandler(-1, 1, 'n', 0));
        thrown("line 8", NO_INDEX, () -> chip.setHandler(8, 1, 'n', 0));
        thrown("beats 0", BAD, () -> chip.setHandler(0, 0, 'n', 0));
        thrown("beats 61", BAD, () -> chip.setHandler(0, 61, 'n', 0));
        thrown("n 1", BAD, () -> chip.setHandler(0, 2, 'n', 1));
        thrown("n -1", BAD, () -> chip.setHandler(0, 2, 'n', -1));
        thrown("f 1", BAD, () -> chip.setHandler(0, 2, 'f', 1));
        thrown("p 8", BAD, () -> chip.setHandler(0, 2, 'p', 8));
        thrown("p -1", BAD, () -> chip.setHandler(0, 2, 'p', -1));
        thrown("s 4", BAD, () -> chip.setHandler(0, 2, 's', 4));
        thrown("s -1", BAD, () -> chip.setHandler(0, 2, 's', -1));
        thrown("x 4", BAD, () -> chip.setHandler(0, 2, 'x', 4));
        thrown("q 8", BAD, () -> chip.setHandler(0, 2, 'q', 8));
        thrown("action z", BAD, () -> chip.setHandler(0, 2, 'z', 0));
        thrown("action P", BAD, () -> chip.setHandler(0, 2, 'P', 0));
        thrown("all wrong", NO_INDEX, () -> chip.setHandler(8, 0, 'z', 9));
        due("nothing changed", chip.setHandler(0, 60, 'p', 7), 1);
        due("p 7", chip.setHandler(0, 3, 's', 3), 60);
        due("s 3", chip.setHandler(0, 4, 'x', 3), 3);
        due("x 3", chip.setHandler(0, 5, 'q', 7), 4);
        due("q 7", chip.setHandler(0, 1, 'f', 0), 5);
    }

    // ---- 9: setSleep

    private static void lightSleep(boolean byBeats) {
        Tickstation chip = withHandler(1, 'n', 0);
        chip.setClock(1, 0, 2, true);
        due("setSleep", chip.setSleep(1), 0);
        due("awake still", chip.processor(), 'i');
        go(chip, 1, byBeats);
        due("asleep", chip.processor(), 'z');
        go(chip, 3, byBeats);
        due("clocks tick at the depth 1", chip.ticks(1), 2);
        due("energy", chip.energy(), 8L);
        chip.request(0);
        go(chip, 1, byBeats);
        due("waking", chip.processor(), 'u');
        go(chip, 1, byBeats);
        due("idle", chip.processor(), 'i');
        go(chip, 1, byBeats);
        due("entering", chip.processor(), 'e');
        go(chip, 5, byBeats);
        due("exiting", chip.processor(), 'x');
        go(chip, 4, byBeats);
        due("asleep again", chip.processor(), 'z');
    }

    private static void deepSleep(boolean byBeats) {
        Tickstation chip = withHandler(1, 'n', 0);
        for (int clock = 1; clock < 4; clock++) {
            chip.setClock(clock, 0, 2, true);
        }
        due("setSleep", chip.setSleep(2), 0);
        go(chip, 10, byBeats);
        for (int clock = 1; clock < 4; clock++) {
            due("clocks neither count nor tick", chip.ticks(clock), 0);
        }
        due("the clock 0 ticks", chip.ticks(0), 10);
        due("energy", chip.energy(), 10L);
        chip.request(0);
        go(chip, 1, byBeats);
        due("waking", chip.processor(), 'u');
        due("asleep as the clocks had their turn", chip.ticks(1), 0);
        go(chip, 1, byBeats);
        due("the count of the first beat", chip.ticks(1), 1);
        go(chip, 4, byBeats);
        due("waking", chip.processor(), 'u');
        go(chip, 1, byBeats);
        due("idle", chip.processor(), 'i');
        due("energy of 7 beats awake", chip.energy(), 45L);
        due("the depth stays", chip.setSleep(2), 2);
    }

    private static void otherDepths(boolean byBeats) {
        Tickstation chip = withHandler(1, 'n', 0);
        chip.setSleep(2);
        go(chip, 5, byBeats);
        due("setSleep", chip.setSleep(1), 2);
        due("asleep at the new depth", chip.processor(), 'z');
        go(chip, 5, byBeats);
        due("ticks", chip.ticks(3), 6);
        due("energy", chip.energy(), 15L);
        chip.request(0);
        go(chip, 2, byBeats);
        due("woken as from the depth 1", chip.processor(), 'i');
        chip.setLine(0, 0, false);
        go(chip, 1, byBeats);
        due("asleep", chip.processor(), 'z');
        due("setSleep", chip.setSleep(0), 1);
        due("idle at once", chip.processor(), 'i');
        go(chip, 5, byBeats);
        due("idle", chip.processor(), 'i');
        chip.setSleep(2);
        go(chip, 1, byBeats);
        chip.setLine(0, 0, true);
        go(chip, 1, byBeats);
        due("waking", chip.processor(), 'u');
        chip.setSleep(0);
        due("waking still", chip.processor(), 'u');
        go(chip, 5, byBeats);
        due("waking still", chip.processor(), 'u');
        thrown("depth -1", BAD, () -> chip.setSleep(-1));
        thrown("depth 3", BAD, () -> chip.setSleep(3));
        due("nothing changed", chip.setSleep(0), 0);
    }

    // ---- 10: setWatchdog

    private static void setWatchdog(boolean byBeats) {
        Tickstation chip = new Tickstation();
        chip.setClock(1, 0, 3, true);
        due("setWatchdog", chip.setWatchdog(1, 0, 4), false);
        go(chip, 11, byBeats);
        due("resets", chip.resets(), 0);
        go(chip, 1, byBeats);
        due("resets", chip.resets(), 1);
        go(chip, 12, byBeats);
        due("again, with the count 0", chip.resets(), 2);
        go(chip, 9, byBeats);
        due("setWatchdog", chip.setWatchdog(1, 0, 4), true);
        go(chip, 11, byBeats);
        due("set with the count 0", chip.resets(), 2);
        due("setWatchdog", chip.setWatchdog(-1, 0, 1), true);
        go(chip, 300, byBeats);
        due("not there", chip.resets(), 2);
        due("setWatchdog", chip.setWatchdog(3, 99, 200), false);
        go(chip, 199, byBeats);
        due("high 200", chip.resets(), 2);
        go(chip, 1, byBeats);
        due("high 200", chip.resets(), 3);
    }

    private static void wrongWatchdogs() {
        Tickstation chip = new Tickstation();
        thrown("clock -2", NO_INDEX, () -> chip.setWatchdog(-2, 0, 1));
        thrown("clock 4", NO_INDEX, () -> chip.setWatchdog(4, 0, 1));
        thrown("low -1", BAD, () -> chip.setWatchdog(0, -1, 1));
        thrown("low 100", BAD, () -> chip.setWatchdog(0, 100, 101));
        thrown("high as low", BAD, () -> chip.setWatchdog(0, 5, 5));
        thrown("high below low", BAD, () -> chip.setWatchdog(0, 5, 4));
        thrown("high 201", BAD, () -> chip.setWatchdog(0, 5, 201));
        thrown("no watchdog with wrong numbers", BAD, () -> chip.setWatchdog(-1, 0, 0));
        thrown("both wrong", NO_INDEX, () -> chip.setWatchdog(4, 5, 5));
        due("nothing changed", chip.setWatchdog(0, 0, 1), false);
        thrown("no watchdog with wrong numbers", BAD, () -> chip.setWatchdog(-1, 0, 201));
        due("it is there still", chip.setWatchdog(0, 99, 100), true);
    }

    // ---- 11 and 12: request, feed

    private static void request() {
        Tickstation chip = new Tickstation();
        due("request", chip.request(7), true);
        due("request", chip.request(7), false);
        due("isRequested", chip.isRequested(7), true);
        due("isRequested", chip.isRequested(6), false);
        due("request", chip.request(0), true);
        thrown("line -1", NO_INDEX, () -> chip.request(-1));
        thrown("line 8", NO_INDEX, () -> chip.request(8));
    }

    private static void feed(boolean byBeats) {
        Tickstation chip = new Tickstation();
        due("no watchdog", chip.feed(), false);
        chip.setWatchdog(0, 3, 10);
        go(chip, 3, byBeats);
        due("at the low number", chip.feed(), false);
        due("no reset", chip.resets(), 0);
        go(chip, 2, byBeats);
        due("below the low number", chip.feed(), true);
        due("resets", chip.resets(), 1);
        due("lastReset", chip.lastReset(), 5);
        go(chip, 9, byBeats);
        due("the count was 0", chip.resets(), 1);
        due("feed", chip.feed(), false);
        go(chip, 9, byBeats);
        due("the count was 0", chip.resets(), 1);
        go(chip, 1, byBeats);
        due("not fed", chip.resets(), 2);
        chip.setWatchdog(0, 0, 1);
        due("low 0", chip.feed(), false);
        chip.setWatchdog(-1, 5, 10);
        due("not there any more", chip.feed(), false);
    }

    // ---- 13 and 14: run, runByBeats

    private static void going() {
        Tickstation chip = withTimer(2);
        chip.setTimer(0, 0, 2, 1, 'r');
        chip.setPin(0, 1, 't');
        due("edges of a beat", chip.run(1), 1);
        due("edges of a beat", chip.run(1), 0);
        due("run 5000", chip.run(5000), 2500);
        due("time", chip.time(), 5002);
        due("edges of a beat", chip.runByBeats(1), 1);
        due("runByBeats 500", chip.runByBeats(500), 250);
        due("time", chip.time(), 5503);
        due("edges", chip.edges(), 2752);
        thrown("run 0", BAD, () -> chip.run(0));
        thrown("run -1", BAD, () -> chip.run(-1));
        thrown("run 5001", BAD, () -> chip.run(5001));
        thrown("runByBeats 0", BAD, () -> chip.runByBeats(0));
        thrown("runByBeats -1", BAD, () -> chip.runByBeats(-1));
        thrown("runByBeats 501", BAD, () -> chip.runByBeats(501));
        due("nothing changed", chip.time(), 5503);
        due("nothing changed", chip.edges(), 2752);
    }

    private static void edgesOfCallsAreNotOfRuns() {
        Tickstation chip = new Tickstation();
        chip.setTimer(0, 0, 9, 1, 'r');
        chip.setPin(0, 0, 's');
        chip.setWatchdog(0, 99, 200);
        chip.start(0, true);
        due("run", chip.run(4), 1);
        due("feed", chip.feed(), true);
        due("edges", chip.edges(), 2);
        due("run", chip.run(4), 0);
        due("runByBeats", chip.runByBeats(4), 0);
    }

    // ---- 15: toEvent

    private static void toTimers() {
        Tickstation chip = withTimer(200);
        due("an overflow", chip.toEvent(), 200);
        chip.setTimer(0, 0, 200, 150, 'r');
        due("a comparison", chip.toEvent(), 150);
        chip.run(150);
        due("behind the comparison", chip.toEvent(), 50);
        chip.setTimer(0, 0, 20, 150, 'r');
        due("a count beyond the period", chip.toEvent(), 1);
        chip.start(0, false);
        thrown("a stopped one", NO_ELEMENT, chip::toEvent);
        chip.start(1, true);
        chip.link(1, 0);
        thrown("linked to a stopped one", NO_ELEMENT, chip::toEvent);
        chip.start(0, true);
        due("at once", chip.toEvent(), 1);
        due("nothing is changed by it", chip.time(), 150);
    }

    private static void toFarTimers() {
        Tickstation chip = new Tickstation();
        for (int clock = 1; clock < 4; clock++) {
            chip.setClock(clock, clock - 1, 64, true);
        }
        chip.setTimer(0, 3, 200, 200, 'r');
        chip.start(0, true);
        due("the farthest event", chip.toEvent(), 52428800);
        chip.run(4096);
        due("the farthest event", chip.toEvent(), 52428800 - 4096);
        chip.setClock(2, 1, 64, false);
        thrown("a source is off", NO_ELEMENT, chip::toEvent);
        chip.setClock(2, 1, 64, true);
        chip.setClock(3, 0, 1, true);
        due("a count beyond the divider", chip.toEvent(), 200);
        chip.setSleep(2);
        due("it falls asleep", chip.toEvent(), 1);
        chip.run(1);
        thrown("stopped while asleep", NO_ELEMENT, chip::toEvent);
        chip.setTimer(0, 0, 200, 200, 'r');
        due("but the clock 0", chip.toEvent(), 199);
        chip.setSleep(1);
        chip.setTimer(0, 3, 200, 200, 'r');
        due("at the depth 1", chip.toEvent(), 199);
    }

    private static void toWatchdog() {
        Tickstation chip = new Tickstation();
        chip.setClock(1, 0, 5, true);
        chip.setWatchdog(1, 0, 40);
        due("it resets", chip.toEvent(), 200);
        chip.run(7);
        due("it resets", chip.toEvent(), 193);
        chip.setClock(1, 0, 5, false);
        thrown("its clock is off", NO_ELEMENT, chip::toEvent);
        chip.setWatchdog(0, 0, 40);
        due("another clock, the count 0", chip.toEvent(), 40);
        chip.setWatchdog(-1, 0, 40);
        thrown("no watchdog", NO_ELEMENT, chip::toEvent);
    }

    private static void toProcessor() {
        Tickstation chip = withHandler(20, 'n', 0);
        chip.setLine(1, 1, true);
        thrown("idle", NO_ELEMENT, chip::toEvent);
        chip.request(0);
        due("enters", chip.toEvent(), 1);
        chip.run(1);
        due("begins", chip.toEvent(), 4);
        chip.run(1);
        due("begins", chip.toEvent(), 3);
        chip.request(1);
        due("a late arrival", chip.toEvent(), 1);
        chip.run(1);
        due("begins", chip.toEvent(), 2);
        chip.run(2);
        due("ends, of one beat", chip.toEvent(), 1);
        chip.run(1);
        due("chained", chip.processor(), 'e');
        due("begins", chip.toEvent(), 2);
        chip.run(2);
        due("ends", chip.toEvent(), 20);
        chip.run(5);
        due("ends", chip.toEvent(), 15);
        chip.request(1);
        due("nested", chip.toEvent(), 1);
        chip.run(6);
        due("exits", chip.processor(), 'x');
        due("goes on", chip.toEvent(), 3);
        chip.run(3);
        due("ends", chip.toEvent(), 15);
        chip.setSleep(1);
        chip.run(18);
        due("falls asleep", chip.toEvent(), 1);
        chip.run(1);
        thrown("asleep", NO_ELEMENT, chip::toEvent);
        chip.request(0);
        due("wakes", chip.toEvent(), 1);
        chip.run(1);
        due("is awake", chip.toEvent(), 1);
        chip.setSleep(2);
        chip.setLine(0, 3, false);
        chip.run(2);
        due("asleep", chip.processor(), 'z');
        chip.setLine(0, 3, true);
        chip.run(1);
        due("is awake", chip.toEvent(), 6);
    }

    // ---- 16 to 19: time, ticks, count, isRunning

    private static void timeAndTicks(boolean byBeats) {
        Tickstation chip = withTimer(9);
        chip.setClock(3, 0, 4, true);
        go(chip, 31, byBeats);
        due("time", chip.time(), 31);
        due("ticks 0", chip.ticks(0), 31);
        due("ticks 3", chip.ticks(3), 7);
        due("count 0", chip.count(0), 4);
        due("isRunning 0", chip.isRunning(0), true);
        due("isRunning 3", chip.isRunning(3), false);
    }

    private static void wrongQuestions() {
        Tickstation chip = new Tickstation();
        chip.run(3);
        int[] wrongFours = {-1, 4, Integer.MAX_VALUE, Integer.MIN_VALUE};
        for (int at : wrongFours) {
            thrown("ticks", NO_INDEX, () -> chip.ticks(at));
            thrown("count", NO_INDEX, () -> chip.count(at));
            thrown("isRunning", NO_INDEX, () -> chip.isRunning(at));
        }
        int[] wrongEights = {-1, 8, Integer.MAX_VALUE, Integer.MIN_VALUE};
        for (int at : wrongEights) {
            thrown("isRequested", NO_INDEX, () -> chip.isRequested(at));
            thrown("handled", NO_INDEX, () -> chip.handled(at));
        }
    }

    // ---- 20 to 23: pins, edges, edgeTime, edgePin

    private static void edges(boolean byBeats) {
        Tickstation chip = new Tickstation();
        chip.setTimer(1, 0, 10, 3, 'r');
        chip.setPin(1, 6, 't');
        chip.start(1, true);
        chip.setTimer(2, 0, 20, 13, 'r');
        chip.setPin(2, 0, 's');
        chip.start(2, true);
        go(chip, 13, byBeats);
        due("pins", chip.pins(), 1);
        due("edges", chip.edges(), 3);
        due("edgeTime 0", chip.edgeTime(0), 3);
        due("edgePin 0", chip.edgePin(0), 14);
        due("edgeTime 1", chip.edgeTime(1), 13);
        due("the lower timer first", chip.edgePin(1), 6);
        due("edgeTime 2", chip.edgeTime(2), 13);
        due("edgePin 2", chip.edgePin(2), 8);
        thrown("edgeTime 3", NO_ELEMENT, () -> chip.edgeTime(3));
        thrown("edgePin 3", NO_ELEMENT, () -> chip.edgePin(3));
        thrown("edgeTime -1", NO_ELEMENT, () -> chip.edgeTime(-1));
        thrown("edgePin -1", NO_ELEMENT, () -> chip.edgePin(-1));
        go(chip, 10, byBeats);
        due("pins", chip.pins(), 65);
    }

    private static void keptEdges(boolean byBeats) {
        Tickstation chip = withTimer(1);
        chip.setTimer(0, 0, 1, 1, 'r');
        chip.setPin(0, 7, 't');
        go(chip, 199, byBeats);
        thrown("edgeTime 199", NO_ELEMENT, () -> chip.edgeTime(199));
        go(chip, 1, byBeats);
        due("edgeTime 199", chip.edgeTime(199), 200);
        due("edgePin 199", chip.edgePin(199), 7);
        due("edgePin 198", chip.edgePin(198), 15);
        go(chip, 50, byBeats);
        due("edges", chip.edges(), 250);
        due("the first one is kept", chip.edgeTime(0), 1);
        due("edgeTime 199", chip.edgeTime(199), 200);
        thrown("edgeTime 200", NO_ELEMENT, () -> chip.edgeTime(200));
        thrown("edgePin 200", NO_ELEMENT, () -> chip.edgePin(200));
        due("pins", chip.pins(), 0);
    }

    // ---- 24 to 30: isRequested, processor, depth, onTop, handled, late, chained

    private static void oneHandler(boolean byBeats) {
        Tickstation chip = withHandler(2, 'n', 0);
        chip.request(0);
        due("idle until a beat", chip.processor(), 'i');
        String states = "eeeehhxxxi";
        for (int i = 0; i < states.length(); i++) {
            go(chip, 1, byBeats);
            due("processor in the beat " + (i + 1), chip.processor(), states.charAt(i));
            due("isRequested in the beat " + (i + 1), chip.isRequested(0), i < 4);
            due("depth in the beat " + (i + 1), chip.depth(), i == 4 || i == 5 ? 1 : 0);
            due("handled in the beat " + (i + 1), chip.handled(0), i < 6 ? 0 : 1);
        }
        thrown("onTop", NO_ELEMENT, chip::onTop);
        due("late", chip.late(), 0);
        due("chained", chip.chained(), 0);
        due("another line", chip.handled(1), 0);
    }

    private static Tickstation withFourLines() {
        Tickstation chip = new Tickstation();
        for (int line = 0; line < 4; line++) {
            chip.setLine(line, 6 - 2 * line, true);
            chip.setHandler(line, 5, 'n', 0);
        }
        return chip;
    }

    private static void nested(boolean byBeats) {
        Tickstation chip = withFourLines();
        chip.request(0);
        go(chip, 5, byBeats);
        due("onTop", chip.onTop(), 0);
        go(chip, 2, byBeats);
        chip.request(1);
        go(chip, 5, byBeats);
        due("onTop", chip.onTop(), 1);
        due("depth", chip.depth(), 2);
        chip.request(3);
        go(chip, 5, byBeats);
        due("onTop", chip.onTop(), 3);
        due("depth", chip.depth(), 3);
        go(chip, 5, byBeats);
        due("ended", chip.handled(3), 1);
        due("exits", chip.processor(), 'x');
        due("onTop", chip.onTop(), 1);
        go(chip, 2, byBeats);
        due("exits", chip.processor(), 'x');
        go(chip, 1, byBeats);
        due("in the handler", chip.processor(), 'h');
        go(chip, 5, byBeats);
        due("onTop", chip.onTop(), 0);
        go(chip, 3, byBeats);
        due("the beats that it had left", chip.handled(0), 0);
        go(chip, 3, byBeats);
        due("the beats that it had left", chip.handled(0), 1);
        due("late", chip.late(), 0);
        due("chained", chip.chained(), 0);
    }

    private static void lateArrivals(boolean byBeats) {
        Tickstation chip = withFourLines();
        chip.request(0);
        go(chip, 2, byBeats);
        chip.request(1);
        go(chip, 1, byBeats);
        due("late", chip.late(), 1);
        chip.request(2);
        go(chip, 1, byBeats);
        due("late", chip.late(), 2);
        chip.request(3);
        go(chip, 1, byBeats);
        due("late in the last beat", chip.late(), 3);
        due("with the beats that are left", chip.onTop(), 3);
        due("not requested any more", chip.isRequested(3), false);
        due("requested still", chip.isRequested(2), true);
        due("depth", chip.depth(), 1);
        go(chip, 5, byBeats);
        due("chained", chip.chained(), 1);
        due("entering", chip.processor(), 'e');
        go(chip, 2, byBeats);
        due("onTop", chip.onTop(), 2);
        go(chip, 7, byBeats);
        due("onTop", chip.onTop(), 1);
        go(chip, 7, byBeats);
        due("onTop", chip.onTop(), 0);
        go(chip, 5, byBeats);
        due("chained", chip.chained(), 3);
        due("exits", chip.processor(), 'x');
    }

    /** A chained one is to be more urgent than the line on top; one of its rank waits. */
    private static void chainedAboveOthers(boolean byBeats) {
        Tickstation chip = withFourLines();
        chip.request(1);
        go(chip, 5, byBeats);
        chip.request(3);
        go(chip, 5, byBeats);
        chip.setLine(0, 4, true);
        chip.request(0);
        go(chip, 5, byBeats);
        due("one of the same rank is not chained", chip.processor(), 'x');
        chip.request(2);
        go(chip, 3, byBeats);
        due("nothing is entered while exiting", chip.processor(), 'h');
        chip.request(3);
        go(chip, 5, byBeats);
        due("onTop", chip.onTop(), 3);
        go(chip, 5, byBeats);
        due("a more urgent one is chained", chip.processor(), 'e');
        due("chained", chip.chained(), 1);
        go(chip, 2, byBeats);
        due("onTop", chip.onTop(), 2);
        due("depth", chip.depth(), 2);
    }

    private static void sameLineTwice(boolean byBeats) {
        Tickstation chip = withFourLines();
        chip.request(0);
        go(chip, 5, byBeats);
        chip.request(1);
        go(chip, 5, byBeats);
        chip.request(0);
        chip.setLine(0, 0, true);
        go(chip, 5, byBeats);
        due("onTop", chip.onTop(), 0);
        due("depth", chip.depth(), 3);
        go(chip, 8, byBeats);
        due("onTop", chip.onTop(), 1);
        go(chip, 8, byBeats);
        due("onTop", chip.onTop(), 0);
        due("handled", chip.handled(0), 1);
        go(chip, 8, byBeats);
        due("handled", chip.handled(0), 2);
        due("processor", chip.processor(), 'i');
    }

    // ---- 31 and 32: resets, lastReset

    private static void resetByCount(boolean byBeats) {
        Tickstation chip = withFourLines();
        for (int timer = 0; timer < 3; timer++) {
            chip.setTimer(timer, 0, 30, 5 + timer, 'r');
            chip.setPin(timer, 7 - 3 * timer, 's');
            chip.start(timer, true);
        }
        chip.setClock(1, 0, 7, true);
        chip.setLine(0, 6, false);
        chip.setLine(1, 4, false);
        chip.setLine(2, 2, false);
        chip.setSleep(1);
        chip.request(3);
        chip.request(7);
        chip.setWatchdog(0, 0, 10);
        go(chip, 9, byBeats);
        due("pins", chip.pins(), 128 + 16 + 2);
        due("begun", chip.depth(), 1);
        go(chip, 1, byBeats);
        due("resets", chip.resets(), 1);
        due("lastReset", chip.lastReset(), 10);
        due("pins", chip.pins(), 0);
        due("edges", chip.edges(), 6);
        int[] falling = {1, 4, 7};
        for (int i = 0; i < 3; i++) {
            due("by rising numbers", chip.edgePin(3 + i), falling[i]);
            due("edgeTime", chip.edgeTime(3 + i), 10);
            due("stopped", chip.isRunning(i), false);
            due("count", chip.count(i), 0);
        }
        for (int line = 0; line < 8; line++) {
            due("isRequested", chip.isRequested(line), false);
        }
        due("depth", chip.depth(), 0);
        due("idle, and no sleep in the same beat", chip.processor(), 'i');
        due("energy of 10 beats, 3 timers in 9", chip.energy(), 77L);
        due("handled", chip.handled(3), 0);
        go(chip, 4, byBeats);
        due("asleep, as the depth stays", chip.processor(), 'z');
        due("the count of a clock stays", chip.ticks(1), 2);
        due("the ranks stay", chip.setLine(2, 2, false), 2);
        due("the handlers stay", chip.setHandler(2, 5, 'n', 0), 5);
        due("the timers' settings stay", chip.setTimer(2, 0, 30, 5, 'r'), 30);
        due("the pins' actions stay", chip.setPin(2, 1, 's'), 's');
        due("the watchdog stays", chip.setWatchdog(0, 0, 10), true);
    }

    private static void resetByAction(boolean byBeats) {
        Tickstation chip = withHandler(1, 'f', 0);
        chip.setWatchdog(0, 10, 100);
        chip.setTimer(0, 0, 50, 2, 'r');
        chip.setPin(0, 3, 's');
        chip.start(0, true);
        chip.request(0);
        chip.request(5);
        chip.setLine(5, 5, true);
        go(chip, 5, byBeats);
        due("begun", chip.depth(), 1);
        go(chip, 1, byBeats);
        due("resets", chip.resets(), 1);
        due("lastReset", chip.lastReset(), 6);
        due("the handler has ended", chip.handled(0), 1);
        due("nothing else is done", chip.processor(), 'i');
        due("nothing is chained", chip.chained(), 0);
        due("depth", chip.depth(), 0);
        due("edges", chip.edges(), 2);
        due("edgePin", chip.edgePin(1), 3);
        due("isRequested", chip.isRequested(5), false);
        due("energy is counted", chip.energy(), 35L);
    }

    private static void resetAsleep(boolean byBeats) {
        Tickstation chip = new Tickstation();
        chip.setSleep(2);
        chip.setWatchdog(1, 0, 3);
        go(chip, 100, byBeats);
        due("its clock is stopped", chip.resets(), 0);
        chip.setWatchdog(0, 1, 3);
        go(chip, 3, byBeats);
        due("the clock 0 is not", chip.resets(), 1);
        due("idle", chip.processor(), 'i');
        due("energy of 102 beats asleep and one idle", chip.energy(), 107L);
        go(chip, 1, byBeats);
        due("asleep", chip.processor(), 'z');
        chip.setWatchdog(0, 1, 3);
        due("fed too early", chip.feed(), true);
        due("idle at once", chip.processor(), 'i');
        due("lastReset", chip.lastReset(), 104);
        due("resets", chip.resets(), 2);
    }

    // ---- 33 to 36: energy, asleepShare, meanEnergy, isConsistent

    private static void energy(boolean byBeats) {
        Tickstation chip = new Tickstation();
        go(chip, 3, byBeats);
        due("idle", chip.energy(), 15L);
        due("none asleep", chip.asleepShare(), 0.0f);
        due("meanEnergy", chip.meanEnergy(), 5.0);
        chip.start(0, true);
        chip.start(2, true);
        go(chip, 4, byBeats);
        due("two timers", chip.energy(), 43L);
        chip.setSleep(1);
        go(chip, 2, byBeats);
        due("asleep with two timers", chip.energy(), 51L);
        chip.setSleep(2);
        go(chip, 1, byBeats);
        due("deep asleep with two timers", chip.energy(), 54L);
        due("asleepShare", chip.asleepShare(), 3.0f / 10.0f);
        due("meanEnergy", chip.meanEnergy(), 5.4);
        chip.setTimer(0, 0, 1, 1, 'o');
        go(chip, 1, byBeats);
        due("one that stops in the beat", chip.energy(), 56L);
        due("asleepShare", chip.asleepShare(), 4.0f / 11.0f);
        due("meanEnergy", chip.meanEnergy(), 56.0 / 11.0);
    }

    private static void consistent() {
        Tickstation chip = withFourLines();
        chip.setTimer(0, 0, 7, 3, 'r');
        chip.setPin(0, 2, 't');
        chip.start(0, true);
        chip.setWatchdog(0, 0, 90);
        chip.setSleep(2);
        chip.run(33);
        int time = chip.time();
        int edges = chip.edges();
        long energy = chip.energy();
        char state = chip.processor();
        for (int i = 0; i < 3; i++) {
            due("isConsistent", chip.isConsistent(), true);
        }
        due("time", chip.time(), time);
        due("edges", chip.edges(), edges);
        due("energy", chip.energy(), energy);
        due("processor", chip.processor(), state);
        due("resets", chip.resets(), 0);
        due("late", chip.late(), 0);
    }

    private static void allOnce() {
        promise = 1;
        newObject();
        firstSettings();
        promise = 2;
        wrongClocks();
        promise = 3;
        wrongTimers();
        promise = 4;
        wrongLinks();
        promise = 5;
        wrongPins();
        promise = 7;
        wrongLines();
        promise = 8;
        wrongHandlers();
        promise = 10;
        wrongWatchdogs();
        promise = 11;
        request();
        promise = 13;
        going();
        edgesOfCallsAreNotOfRuns();
        promise = 15;
        toTimers();
        toFarTimers();
        toWatchdog();
        toProcessor();
        promise = 17;
        wrongQuestions();
        promise = 36;
        consistent();
    }

    private static void settingsBothWays(boolean byBeats) {
        promise = 2;
        setClock(byBeats);
        clockSources(byBeats);
        promise = 3;
        setTimer(byBeats);
        comparing(byBeats);
        promise = 4;
        linked(byBeats);
        promise = 5;
        setPin(byBeats);
        promise = 6;
        start(byBeats);
        promise = 7;
        setLine(byBeats);
        ranksNow(byBeats);
        promise = 8;
        setHandler(byBeats);
        actions(byBeats);
        promise = 9;
        lightSleep(byBeats);
        deepSleep(byBeats);
        otherDepths(byBeats);
        promise = 10;
        setWatchdog(byBeats);
        promise = 12;
        feed(byBeats);
    }

    private static void answersBothWays(boolean byBeats) {
        promise = 16;
        timeAndTicks(byBeats);
        promise = 20;
        edges(byBeats);
        promise = 22;
        keptEdges(byBeats);
        promise = 25;
        oneHandler(byBeats);
        promise = 26;
        nested(byBeats);
        promise = 29;
        lateArrivals(byBeats);
        promise = 30;
        chainedAboveOthers(byBeats);
        sameLineTwice(byBeats);
        promise = 31;
        resetByCount(byBeats);
        resetByAction(byBeats);
        resetAsleep(byBeats);
        promise = 33;
        energy(byBeats);
    }

    public static void main(String[] args) {
        allOnce();
        settingsBothWays(false);
        settingsBothWays(true);
        answersBothWays(false);
        answersBothWays(true);
        System.out.println(checks + " answers, " + wrong + " of them not as due");
        if (wrong != 0) {
            System.exit(1);
        }
    }
}
