import java.util.ArrayList;
import java.util.List;
import java.util.NoSuchElementException;

/**
 * Many made-up runs of calls, each held against SlowChip behind every call. The numbers come from
 * a fixed row, so a fault shows again in each run of this test.
 */
public final class ModelTest {
    private static final int CALLS = 500;
    private static final int LOOK_AHEAD = 3000;

    private static int checks = 0;
    private static int wrong = 0;

    private final Tickstation chip = new Tickstation();
    private final SlowChip slow = new SlowChip();
    private final String name;
    private final List<String> calls = new ArrayList<>();
    private long seed;

    private ModelTest(String name, long seed) {
        this.name = name;
        this.seed = seed;
    }

    private int below(int bound) {
        seed = seed * 6364136223846793005L + 1442695040888963407L;
        return (int) ((seed >>> 33) % bound);
    }

    /** Mostly a number from low to high, now and then one just beyond. */
    private int near(int low, int high) {
        int which = below(40);
        if (which == 0) {
            return low - 1;
        }
        return which == 1 ? high + 1 : low + below(high - low + 1);
    }

    private char oneOf(String signs) {
        return signs.charAt(below(signs.length()));
    }

    private void due(String what, Object got, Object want) {
        checks++;
        if (!got.equals(want)) {
            wrong++;
            if (wrong <= 20) {
                System.out.println(name + ", behind " + calls.size() + " calls: " + what
                        + " answered " + got + ", due is " + want);
                System.out.println("  last calls: "
                        + calls.subList(Math.max(0, calls.size() - 25), calls.size()));
            }
        }
    }

    private static boolean in(int number, int low, int high) {
        return number >= low && number <= high;
    }

    /** What a call answers, or the name of what it throws. */
    private interface Asked {
        Object answer();
    }

    private void call(String told, Asked asked, Object want) {
        calls.add(told);
        due(told, answerOf(asked), want);
    }

    private static Object answerOf(Asked asked) {
        try {
            return asked.answer();
        } catch (RuntimeException e) {
            return e.getClass().getSimpleName();
        }
    }

    private static final String NO_INDEX = "IndexOutOfBoundsException";
    private static final String BAD = "IllegalArgumentException";
    private static final String NONE = "NoSuchElementException";

    private void setClock() {
        int clock = near(1, 3);
        int source = clock <= 1 ? near(0, 0) : near(0, clock - 1);
        int divider = below(3) == 0 ? near(1, 64) : near(1, 4);
        boolean on = below(5) != 0;
        Object want;
        if (!in(clock, 1, 3) || !in(source, 0, clock - 1)) {
            want = NO_INDEX;
        } else if (!in(divider, 1, 64)) {
            want = BAD;
        } else {
            want = slow.clocks[clock].divider;
            slow.clocks[clock].source = source;
            slow.clocks[clock].divider = divider;
            slow.clocks[clock].on = on;
        }
        call("setClock(" + clock + "," + source + "," + divider + "," + on + ")",
                () -> chip.setClock(clock, source, divider, on), want);
    }

    private void setTimer() {
        int timer = near(0, 3);
        int clock = near(0, 3);
        int period = below(3) == 0 ? near(1, 200) : near(1, 20);
        int compare = below(3) == 0 ? near(1, 200) : near(1, 20);
        char mode = oneOf("rrrrrrrrroooon");
        Object want;
        if (!in(timer, 0, 3) || !in(clock, 0, 3)) {
            want = NO_INDEX;
        } else if (!in(period, 1, 200) || !in(compare, 1, 200) || mode == 'n') {
            want = BAD;
        } else {
            SlowChip.Timer it = slow.timers[timer];
            want = it.period;
            it.clock = clock;
            it.period = period;
            it.compare = compare;
            it.mode = mode;
            it.linked = -1;
        }
        call("setTimer(" + timer + "," + clock + "," + period + "," + compare + "," + mode + ")",
                () -> chip.setTimer(timer, clock, period, compare, mode), want);
    }

    private void link() {
        int timer = near(0, 3);
        int other = near(-1, 2);
        Object want;
        if (!in(timer, 0, 3)) {
            want = NO_INDEX;
        } else if (!in(other, -1, timer - 1)) {
            want = BAD;
        } else {
            want = slow.timers[timer].linked;
            slow.timers[timer].linked = other;
        }
        call("link(" + timer + "," + other + ")", () -> chip.link(timer, other), want);
    }

    private void setPin() {
        int timer = near(0, 3);
        int pin = near(0, 7);
        char action = oneOf("ssccttttttnp");
        Object want;
        if (!in(timer, 0, 3) || !in(pin, 0, 7)) {
            want = NO_INDEX;
        } else if (action == 'p') {
            want = BAD;
        } else {
            want = slow.timers[timer].pinAction;
            slow.timers[timer].pin = pin;
            slow.timers[timer].pinAction = action;
        }
        call("setPin(" + timer + "," + pin + "," + action + ")", () -> chip.setPin(timer, pin, action), want);
    }

    private void start() {
        int timer = near(0, 3);
        boolean runs = below(5) != 0;
        Object want = NO_INDEX;
        if (in(timer, 0, 3)) {
            want = slow.timers[timer].runs;
            slow.timers[timer].runs = runs;
        }
        call("start(" + timer + "," + runs + ")", () -> chip.start(timer, runs), want);
    }

    private void setLine() {
        int line = near(0, 7);
        int rank = near(0, 7);
        boolean enabled = below(5) != 0;
        Object want;
        if (!in(line, 0, 7)) {
            want = NO_INDEX;
        } else if (!in(rank, 0, 7)) {
            want = BAD;
        } else {
            want = slow.lines[line].rank;
            slow.lines[line].rank = rank;
            slow.lines[line].enabled = enabled;
        }
        call("setLine(" + line + "," + rank + "," + enabled + ")", () -> chip.setLine(line, rank, enabled), want);
    }

    private void setHandler() {
        int line = near(0, 7);
        int beats = below(3) == 0 ? near(1, 60) : near(1, 8);
        char action = oneOf("nppssxxfqqqz");
        int last = action == 'p' || action == 'q' ? 7 : action == 's' || action == 'x' ? 3 : 0;
        int target = near(0, last);
        Object want;
        if (!in(line, 0, 7)) {
            want = NO_INDEX;
        } else if (!in(beats, 1, 60) || !in(target, 0, last) || action == 'z') {
            want = BAD;
        } else {
            SlowChip.Line it = slow.lines[line];
            want = it.beats;
            it.beats = beats;
            it.action = action;
            it.target = target;
        }
        call("setHandler(" + line + "," + beats + "," + action + "," + target + ")",
                () -> chip.setHandler(line, beats, action, target), want);
    }

    private void setSleep() {
        int depth = near(0, 2);
        Object want = BAD;
        if (in(depth, 0, 2)) {
            want = slow.sleep;
            slow.sleep = depth;
            if (depth == 0 && slow.state == 'z') {
                slow.state = 'i';
            }
        }
        call("setSleep(" + depth + ")", () -> chip.setSleep(depth), want);
    }

    private void setWatchdog() {
        int clock = below(4) == 0 ? -1 : near(-1, 3);
        int low = below(2) == 0 ? near(0, 99) : near(0, 9);
        int high = below(6) == 0 ? low : low < 0 ? 50 : near(low + 1, 200);
        Object want;
        if (!in(clock, -1, 3)) {
            want = NO_INDEX;
        } else if (!in(low, 0, 99) || !in(high, low + 1, 200)) {
            want = BAD;
        } else {
            want = slow.hasDog;
            slow.hasDog = clock >= 0;
            slow.dogClock = Math.max(0, clock);
            slow.dogLow = low;
            slow.dogHigh = high;
            slow.dogCount = 0;
        }
        call("setWatchdog(" + clock + "," + low + "," + high + ")",
                () -> chip.setWatchdog(clock, low, high), want);
    }

    private void request() {
        int line = near(0, 7);
        Object want = NO_INDEX;
        if (in(line, 0, 7)) {
            want = !slow.lines[line].requested;
            slow.lines[line].requested = true;
        }
        call("request(" + line + ")", () -> chip.request(line), want);
    }

    private void feed() {
        call("feed()", chip::feed, slow.feed());
    }

    private int slowly(int beats) {
        int before = slow.edges.size();
        for (int i = 0; i < beats; i++) {
            slow.beat();
        }
        return slow.edges.size() - before;
    }

    private void run(int longest) {
        int beats = below(30) == 0 ? near(1, 5000) : near(1, longest);
        Object want = in(beats, 1, 5000) ? (Object) slowly(beats) : BAD;
        call("run(" + beats + ")", () -> chip.run(beats), want);
    }

    private void runByBeats(int longest) {
        int beats = below(30) == 0 ? near(1, 500) : near(1, longest);
        Object want = in(beats, 1, 500) ? (Object) slowly(beats) : BAD;
        call("runByBeats(" + beats + ")", () -> chip.runByBeats(beats), want);
    }

    /** Goes on to the event by the slow chip, as that can't look ahead without changing. */
    private void toEvent() {
        calls.add("toEvent()");
        Object said = answerOf(chip::toEvent);
        int most = said instanceof Integer ? Math.min((Integer) said, LOOK_AHEAD) : LOOK_AHEAD;
        int gone = 0;
        while (gone < most && (gone == 0 || !slow.hadEvent)) {
            slow.beat();
            gone++;
        }
        if (said instanceof Integer && (Integer) said <= LOOK_AHEAD) {
            due("toEvent()", said, gone);
            due("toEvent() with an event there", slow.hadEvent, true);
        } else {
            due("toEvent() far ahead", said instanceof Integer || said.equals(NONE), true);
            due("an event within " + LOOK_AHEAD, slow.hadEvent, false);
        }
        chip.run(gone);
    }

    private void compareAll() {
        due("time", chip.time(), slow.time);
        for (int i = -1; i <= 4; i++) {
            int at = i;
            boolean is = in(i, 0, 3);
            due("ticks " + i, answerOf(() -> chip.ticks(at)), is ? (Object) slow.clocks[i].ticks : NO_INDEX);
            due("count " + i, answerOf(() -> chip.count(at)), is ? (Object) slow.timers[i].count : NO_INDEX);
            due("isRunning " + i, answerOf(() -> chip.isRunning(at)), is ? (Object) slow.timers[i].runs : NO_INDEX);
        }
        for (int i = -1; i <= 8; i++) {
            int at = i;
            boolean is = in(i, 0, 7);
            due("isRequested " + i, answerOf(() -> chip.isRequested(at)),
                    is ? (Object) slow.lines[i].requested : NO_INDEX);
            due("handled " + i, answerOf(() -> chip.handled(at)), is ? (Object) slow.lines[i].handled : NO_INDEX);
        }
        int pins = 0;
        for (int i = 0; i < 8; i++) {
            pins += slow.high[i] ? 1 << i : 0;
        }
        due("pins", chip.pins(), pins);
        due("edges", chip.edges(), slow.edges.size());
        for (int i = -1; i <= 201; i += i > 10 && i < 190 ? 7 : 1) {
            int at = i;
            boolean is = in(i, 0, Math.min(200, slow.edges.size()) - 1);
            due("edgeTime " + i, answerOf(() -> chip.edgeTime(at)), is ? (Object) slow.edges.get(i)[0] : NONE);
            due("edgePin " + i, answerOf(() -> chip.edgePin(at)), is ? (Object) slow.edges.get(i)[1] : NONE);
        }
        due("processor", chip.processor(), slow.state);
        due("depth", chip.depth(), slow.row.size());
        due("onTop", answerOf(chip::onTop),
                slow.row.isEmpty() ? NONE : (Object) slow.row.get(slow.row.size() - 1).line);
        due("late", chip.late(), slow.late);
        due("chained", chip.chained(), slow.chained);
        due("resets", chip.resets(), slow.resets);
        due("lastReset", answerOf(chip::lastReset), slow.resets == 0 ? NONE : (Object) slow.lastReset);
        due("energy", chip.energy(), slow.energy);
        due("asleepShare", answerOf(chip::asleepShare),
                slow.time == 0 ? "ArithmeticException" : (Object) ((float) slow.asleep / (float) slow.time));
        due("meanEnergy", answerOf(chip::meanEnergy),
                slow.time == 0 ? "ArithmeticException" : (Object) ((double) slow.energy / (double) slow.time));
    }

    private void goOn(int longest) {
        switch (below(5)) {
            case 0:
                runByBeats(longest);
                break;
            case 1:
                toEvent();
                break;
            case 2:
                call("isConsistent()", chip::isConsistent, true);
                break;
            default:
                run(longest);
                break;
        }
    }

    private void change(int which) {
        switch (which) {
            case 0:
                setClock();
                break;
            case 1:
                setTimer();
                break;
            case 2:
                link();
                break;
            case 3:
                setPin();
                break;
            case 4:
                start();
                break;
            case 5:
                setLine();
                break;
            case 6:
                setHandler();
                break;
            case 7:
                setSleep();
                break;
            case 8:
                setWatchdog();
                break;
            case 9:
                feed();
                break;
            default:
                request();
                break;
        }
    }

    private void go() {
        int longest = 1 + below(60);
        int dogs = below(3);
        for (int i = 0; i < CALLS && wrong == 0; i++) {
            int which = below(i < 40 ? 14 : 30);
            if (which >= 15) {
                goOn(longest);
            } else if (which != 8 && which != 9 || dogs > 0) {
                change(which);
            }
            compareAll();
        }
    }

    /** All lines are requested in each beat; a rank is changed ahead of each next handler. */
    private void goDeep() {
        for (int timer = 0; timer < 4; timer++) {
            chip.setTimer(timer, 0, 1, 1, 'r');
            chip.start(timer, true);
            slow.timers[timer].period = 1;
            slow.timers[timer].compare = 1;
            slow.timers[timer].runs = true;
        }
        for (int line = 0; line < 8; line++) {
            chip.setHandler(line, 60, 'n', 0);
            slow.lines[line].beats = 60;
        }
        for (int i = 0; i < 240 && wrong == 0; i++) {
            int line = i % 8;
            int rank = i / 8 % 2 == 0 ? 7 - line : 7;
            int changed = i / 8 % 2 == 0 ? line : 7 - line;
            call("setLine(" + changed + "," + rank + ",true)",
                    () -> chip.setLine(changed, rank, true), slow.lines[changed].rank);
            slow.lines[changed].rank = rank;
            slow.lines[changed].enabled = true;
            boolean byBeats = i % 3 == 0;
            call("five beats", () -> byBeats ? chip.runByBeats(5) : chip.run(5), slowly(5));
            compareAll();
        }
        due("a deep row", chip.depth() > 100, true);
        call("isConsistent()", chip::isConsistent, true);
    }

    public static void main(String[] args) {
        for (int i = 0; i < 600 && wrong == 0; i++) {
            new ModelTest("run " + i, 1000003L * i + 17).go();
        }
        new ModelTest("deep run", 0).goDeep();
        System.out.println(checks + " answers held against the slow chip, " + wrong + " of them not as due");
        if (wrong != 0) {
            System.exit(1);
        }
    }
}
