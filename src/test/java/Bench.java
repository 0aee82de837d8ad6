import java.util.NoSuchElementException;
import java.util.function.Function;

/** What the cases of BoundaryTest share. */
final class Bench {
    static final Class<?> NO_INDEX = IndexOutOfBoundsException.class;
    static final Class<?> BAD = IllegalArgumentException.class;
    static final Class<?> NO_ELEMENT = NoSuchElementException.class;
    static final Class<?> NO_SHARE = ArithmeticException.class;

    private static String current = "";
    private static int checks = 0;
    private static int wrong = 0;

    private Bench() {
    }

    /** Tells which case the answers from here on belong to. */
    static void begin(String name) {
        current = name;
    }

    static int checks() {
        return checks;
    }

    static int wrong() {
        return wrong;
    }

    static void fail(String what) {
        wrong++;
        System.out.println(current + ": " + what);
    }

    private static void dueText(String what, String got, String want) {
        checks++;
        if (!got.equals(want)) {
            fail(what + " answered " + got + ", due is " + want);
        }
    }

    static void due(String what, long got, long want) {
        dueText(what, Long.toString(got), Long.toString(want));
    }

    static void due(String what, char got, char want) {
        dueText(what, Character.toString(got), Character.toString(want));
    }

    static void due(String what, boolean got, boolean want) {
        dueText(what, Boolean.toString(got), Boolean.toString(want));
    }

    static void due(String what, float got, float want) {
        dueText(what, Float.toString(got), Float.toString(want));
    }

    static void due(String what, double got, double want) {
        dueText(what, Double.toString(got), Double.toString(want));
    }

    /** A call on a chip, with its answer. */
    interface Call {
        Object on(Tickstation chip);
    }

    static String answer(Tickstation chip, Call call) {
        try {
            return String.valueOf(call.on(chip));
        } catch (RuntimeException e) {
            return e.getClass().getName();
        }
    }

    static void dueThrown(Tickstation chip, Class<?> want, Call call) {
        dueText("the call", answer(chip, call), want.getName());
    }

    /** The call is refused by a new chip and by a busy one, and neither of them is changed by it. */
    static void refused(Class<?> want, Call call) {
        refusedBy(Bench::fresh, want, call);
        refusedBy(Bench::busy, want, call);
    }

    private static void refusedBy(Function<Integer, Tickstation> made, Class<?> want, Call call) {
        for (int beats = 0; beats < 3; beats++) {
            Tickstation called = made.apply(beats);
            Tickstation twin = made.apply(beats);
            dueThrown(called, want, call);
            dueText("all answers behind the refused call", allAnswers(called), allAnswers(twin));
            called.run(290);
            twin.run(290);
            dueText("all answers later on", allAnswers(called), allAnswers(twin));
            dueText("the settings", settings(called), settings(twin));
        }
    }

    static Tickstation fresh(int beats) {
        Tickstation chip = new Tickstation();
        if (beats > 0) {
            chip.run(beats);
        }
        return chip;
    }

    /** No setting is as at first, and each one has a part in the next 290 beats. */
    static Tickstation busy(int beats) {
        Tickstation chip = new Tickstation();
        chip.setClock(1, 0, 2, true);
        chip.setClock(2, 1, 3, true);
        chip.setClock(3, 1, 4, true);
        chip.setTimer(0, 1, 17, 3, 'r');
        chip.setTimer(1, 2, 9, 2, 'r');
        chip.setTimer(2, 3, 6, 5, 'o');
        chip.setTimer(3, 3, 2, 1, 'r');
        chip.link(3, 0);
        for (int timer = 0; timer < 4; timer++) {
            chip.setPin(timer, 2 + timer / 2 * 3, "tsct".charAt(timer));
            chip.start(timer, true);
        }
        for (int line = 0; line < 8; line++) {
            chip.setLine(line, (line * 3 + 1) % 7, line != 6);
            chip.setHandler(line, 3 + 2 * line, "pqsxpfnp".charAt(line), line == 5 || line == 6 ? 0 : 7 - 2 * line & 3);
        }
        chip.setSleep(1);
        chip.setWatchdog(3, 1, 30);
        chip.run(39 + beats);
        return chip;
    }

    /** Each answer that changes nothing, the wrong numbers beside the right ones too. */
    static String allAnswers(Tickstation chip) {
        StringBuilder text = new StringBuilder();
        text.append(chip.time()).append(' ').append(chip.energy()).append(' ').append(chip.processor());
        for (int i = 0; i < 4; i++) {
            text.append(' ').append(chip.ticks(i)).append(' ').append(chip.count(i)).append(' ').append(chip.isRunning(i));
        }
        for (int i = 0; i < 8; i++) {
            text.append(' ').append(chip.isRequested(i)).append(' ').append(chip.handled(i));
        }
        text.append(" edges ").append(chip.pins()).append(' ').append(chip.edges());
        for (int i = 0; i < chip.edges() && i < 200; i++) {
            text.append(' ').append(chip.edgeTime(i)).append(':').append(chip.edgePin(i));
        }
        text.append(" row ").append(chip.depth()).append(' ').append(answer(chip, Tickstation::onTop));
        text.append(" late ").append(chip.late()).append(" chained ").append(chip.chained());
        text.append(" resets ").append(chip.resets()).append(' ').append(answer(chip, Tickstation::lastReset));
        text.append(' ').append(answer(chip, Tickstation::asleepShare));
        text.append(' ').append(answer(chip, Tickstation::meanEnergy));
        text.append(" event ").append(answer(chip, Tickstation::toEvent));
        return text.toString();
    }

    /** What the setters answer; the chip is another one behind this. */
    static String settings(Tickstation chip) {
        StringBuilder text = new StringBuilder();
        for (int i = 1; i < 4; i++) {
            text.append(' ').append(chip.setClock(i, 0, 1, true));
        }
        for (int i = 0; i < 4; i++) {
            text.append(' ').append(chip.link(i, -1)).append(' ').append(chip.setTimer(i, 0, 10, 10, 'r'));
            text.append(' ').append(chip.setPin(i, 0, 'n')).append(' ').append(chip.start(i, false));
        }
        for (int i = 0; i < 8; i++) {
            text.append(' ').append(chip.setLine(i, 7, false)).append(' ').append(chip.setHandler(i, 1, 'n', 0));
            text.append(' ').append(chip.request(i));
        }
        text.append(' ').append(chip.setSleep(0)).append(' ').append(chip.setWatchdog(-1, 0, 1));
        return text.toString();
    }

    // ---- chips to begin with

    /** The line has this rank, is enabled, and has a handler without an action. */
    static void setLine(Tickstation chip, int line, int rank, int beats) {
        chip.setLine(line, rank, true);
        chip.setHandler(line, beats, 'n', 0);
    }

    static Tickstation withLine(int line, int rank, int beats) {
        Tickstation chip = new Tickstation();
        setLine(chip, line, rank, beats);
        return chip;
    }

    /** In the handler of the line, in its first beat; 5 beats have gone. */
    static Tickstation inHandler(Way way, int line, int rank, int beats) {
        Tickstation chip = withLine(line, rank, beats);
        chip.request(line);
        way.go(chip, 5);
        return chip;
    }

    /** One beat asleep has gone. */
    static Tickstation asleep(Way way, int depth) {
        Tickstation chip = new Tickstation();
        chip.setSleep(depth);
        way.go(chip, 1);
        return chip;
    }

    static void setTimer(Tickstation chip, int timer, int period, int compare) {
        chip.setTimer(timer, 0, period, compare, 'r');
        chip.start(timer, true);
    }

    static Tickstation withTimer(int timer, int period, int compare) {
        Tickstation chip = new Tickstation();
        setTimer(chip, timer, period, compare);
        return chip;
    }

    /** The pin changes in each beat: it is high behind the first one. */
    static Tickstation withPinThatChanges(int pin) {
        Tickstation chip = withTimer(0, 1, 1);
        chip.setPin(0, pin, 't');
        return chip;
    }
}
