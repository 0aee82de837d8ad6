import java.util.Arrays;
import java.util.NoSuchElementException;

/** A small controller chip, as ../shared/DOC.md promises it. */
public final class Tickstation {
    private static final int CLOCKS = 4;
    private static final int TIMERS = 4;
    private static final int PINS = 8;
    private static final int LINES = 8;
    private static final int MOST_DIVIDER = 64;
    private static final int MOST_PERIOD = 200;
    private static final int MOST_RANK = 7;
    private static final int MOST_HANDLER_BEATS = 60;
    private static final int DEEP = 2;
    private static final int MOST_LOW = 99;
    private static final int MOST_HIGH = 200;
    private static final int MOST_BEATS = 5000;
    private static final int MOST_SINGLE_BEATS = 500;
    private static final int CHECKED_BEATS = 300;
    private static final int KEPT_EDGES = 200;

    /**
     * A call that goes on adds at most 8 handlers to the row, and only if ranks were changed since
     * the one before: 512 calls come to at most 2048, and a check on a copy to 8 more.
     */
    private static final int MOST_BEGUN = 2100;

    private static final int NONE = -1;

    /** Above any beat that an event can be away: 200 ticks of three dividers of 64 are 52,428,800. */
    private static final int NEVER = 1000000000;

    private static final char IDLE = 'i';
    private static final char ASLEEP = 'z';
    private static final char WAKING = 'u';
    private static final char ENTERING = 'e';
    private static final char IN_HANDLER = 'h';
    private static final char EXITING = 'x';

    private static final int ENTRY_BEATS = 4;
    private static final int CHAINED_BEATS = 2;
    private static final int EXIT_BEATS = 3;
    private static final int WAKE_BEATS = 1;
    private static final int DEEP_WAKE_BEATS = 6;

    private final Chip chip = new Chip();

    /** The two copies that isConsistent compares, kept so that a check makes no objects. */
    private final Chip copyByEvents = new Chip();
    private final Chip copyByBeats = new Chip();

    public Tickstation() {
    }

    // ---- settings

    public int setClock(int clock, int source, int divider, boolean isOn)
            throws IndexOutOfBoundsException, IllegalArgumentException {
        if (clock < 1 || clock >= CLOCKS) {
            throw new IndexOutOfBoundsException("no such clock");
        }
        if (source < 0 || source >= clock) {
            throw new IndexOutOfBoundsException("the source is no clock with a lower number");
        }
        if (divider < 1 || divider > MOST_DIVIDER) {
            throw new IllegalArgumentException("the divider is out of range");
        }
        Clocks clocks = chip.clocks;
        int before = clocks.divider[clock];
        clocks.source[clock] = source;
        clocks.divider[clock] = divider;
        clocks.on = withBit(clocks.on, clock, isOn);
        return before;
    }

    public int setTimer(int timer, int clock, int period, int compare, char mode)
            throws IndexOutOfBoundsException, IllegalArgumentException {
        if (timer < 0 || timer >= TIMERS || clock < 0 || clock >= CLOCKS) {
            throw new IndexOutOfBoundsException("no such timer or clock");
        }
        if (period < 1 || period > MOST_PERIOD || compare < 1 || compare > MOST_PERIOD) {
            throw new IllegalArgumentException("a number is out of range");
        }
        if (mode != 'r' && mode != 'o') {
            throw new IllegalArgumentException("no such mode");
        }
        Timers timers = chip.timers;
        int before = timers.period[timer];
        timers.clock[timer] = clock;
        timers.period[timer] = period;
        timers.compare[timer] = compare;
        timers.once = withBit(timers.once, timer, mode == 'o');
        timers.linkedTo[timer] = NONE;
        return before;
    }

    public int link(int timer, int other) throws IndexOutOfBoundsException, IllegalArgumentException {
        if (timer < 0 || timer >= TIMERS) {
            throw new IndexOutOfBoundsException("no such timer");
        }
        if (other < NONE || other >= timer) {
            throw new IllegalArgumentException("the other one is no timer with a lower number");
        }
        int before = chip.timers.linkedTo[timer];
        chip.timers.linkedTo[timer] = other;
        return before;
    }

    public char setPin(int timer, int pin, char action)
            throws IndexOutOfBoundsException, IllegalArgumentException {
        if (timer < 0 || timer >= TIMERS || pin < 0 || pin >= PINS) {
            throw new IndexOutOfBoundsException("no such timer or pin");
        }
        if (action != 's' && action != 'c' && action != 't' && action != 'n') {
            throw new IllegalArgumentException("no such action");
        }
        char before = (char) chip.timers.action[timer];
        chip.timers.pin[timer] = pin;
        chip.timers.action[timer] = action;
        return before;
    }

    public boolean start(int timer, boolean runs) throws IndexOutOfBoundsException {
        if (timer < 0 || timer >= TIMERS) {
            throw new IndexOutOfBoundsException("no such timer");
        }
        boolean before = hasBit(chip.timers.running, timer);
        chip.timers.running = withBit(chip.timers.running, timer, runs);
        return before;
    }

    public int setLine(int line, int rank, boolean isEnabled)
            throws IndexOutOfBoundsException, IllegalArgumentException {
        if (line < 0 || line >= LINES) {
            throw new IndexOutOfBoundsException("no such line");
        }
        if (rank < 0 || rank > MOST_RANK) {
            throw new IllegalArgumentException("the rank is out of range");
        }
        Lines lines = chip.lines;
        int before = lines.rank[line];
        lines.rank[line] = rank;
        lines.enabled = withBit(lines.enabled, line, isEnabled);
        return before;
    }

    public int setHandler(int line, int beats, char action, int target)
            throws IndexOutOfBoundsException, IllegalArgumentException {
        if (line < 0 || line >= LINES) {
            throw new IndexOutOfBoundsException("no such line");
        }
        if (beats < 1 || beats > MOST_HANDLER_BEATS) {
            throw new IllegalArgumentException("the number of beats is out of range");
        }
        if (target < 0 || target >= targetsOf(action)) {
            throw new IllegalArgumentException("no such action, or no such target of it");
        }
        Lines lines = chip.lines;
        int before = lines.beats[line];
        lines.beats[line] = beats;
        lines.action[line] = action;
        lines.target[line] = target;
        return before;
    }

    public int setSleep(int depth) throws IllegalArgumentException {
        if (depth < 0 || depth > DEEP) {
            throw new IllegalArgumentException("the depth is out of range");
        }
        Processor processor = chip.processor;
        int before = processor.sleepDepth;
        processor.sleepDepth = depth;
        if (depth == 0 && processor.state == ASLEEP) {
            processor.state = IDLE;
        }
        return before;
    }

    public boolean setWatchdog(int clock, int low, int high)
            throws IndexOutOfBoundsException, IllegalArgumentException {
        if (clock < NONE || clock >= CLOCKS) {
            throw new IndexOutOfBoundsException("no such clock");
        }
        if (low < 0 || low > MOST_LOW || high <= low || high > MOST_HIGH) {
            throw new IllegalArgumentException("a number is out of range");
        }
        Watchdog watchdog = chip.watchdog;
        boolean before = watchdog.clock != NONE;
        watchdog.clock = clock;
        watchdog.low = low;
        watchdog.high = high;
        watchdog.count = 0;
        return before;
    }

    public boolean request(int line) throws IndexOutOfBoundsException {
        if (line < 0 || line >= LINES) {
            throw new IndexOutOfBoundsException("no such line");
        }
        boolean before = hasBit(chip.lines.requested, line);
        chip.lines.requested = withBit(chip.lines.requested, line, true);
        return !before;
    }

    public boolean feed() {
        boolean isReset = chip.watchdog.bitesWhenFed();
        if (isReset) {
            chip.reset();
        }
        return isReset;
    }

    // ---- going on

    public int run(int beats) throws IllegalArgumentException {
        if (beats < 1 || beats > MOST_BEATS) {
            throw new IllegalArgumentException("the number of beats is out of range");
        }
        return chip.goByEvents(beats);
    }

    public int runByBeats(int beats) throws IllegalArgumentException {
        if (beats < 1 || beats > MOST_SINGLE_BEATS) {
            throw new IllegalArgumentException("the number of beats is out of range");
        }
        return chip.goByBeats(beats);
    }

    public int toEvent() throws NoSuchElementException {
        int beats = chip.beatsToEvent();
        if (beats >= NEVER) {
            throw new NoSuchElementException("no event comes");
        }
        return beats;
    }

    // ---- what is asked

    public int time() {
        return chip.time;
    }

    public int ticks(int clock) throws IndexOutOfBoundsException {
        if (clock < 0 || clock >= CLOCKS) {
            throw new IndexOutOfBoundsException("no such clock");
        }
        return chip.clocks.ticks[clock];
    }

    public int count(int timer) throws IndexOutOfBoundsException {
        if (timer < 0 || timer >= TIMERS) {
            throw new IndexOutOfBoundsException("no such timer");
        }
        return chip.timers.count[timer];
    }

    public boolean isRunning(int timer) throws IndexOutOfBoundsException {
        if (timer < 0 || timer >= TIMERS) {
            throw new IndexOutOfBoundsException("no such timer");
        }
        return hasBit(chip.timers.running, timer);
    }

    public int pins() {
        return chip.probe.levels;
    }

    public int edges() {
        return chip.probe.edges;
    }

    public int edgeTime(int index) throws NoSuchElementException {
        if (index < 0 || index >= chip.probe.edges || index >= KEPT_EDGES) {
            throw new NoSuchElementException("no such edge was kept");
        }
        return chip.probe.edgeTimes[index];
    }

    public int edgePin(int index) throws NoSuchElementException {
        if (index < 0 || index >= chip.probe.edges || index >= KEPT_EDGES) {
            throw new NoSuchElementException("no such edge was kept");
        }
        return chip.probe.edgePins[index];
    }

    public boolean isRequested(int line) throws IndexOutOfBoundsException {
        if (line < 0 || line >= LINES) {
            throw new IndexOutOfBoundsException("no such line");
        }
        return hasBit(chip.lines.requested, line);
    }

    public char processor() {
        return chip.processor.state;
    }

    public int depth() {
        return chip.processor.begun.size;
    }

    public int onTop() throws NoSuchElementException {
        int line = chip.processor.begun.topLine();
        if (line == NONE) {
            throw new NoSuchElementException("no handler is begun");
        }
        return line;
    }

    public int handled(int line) throws IndexOutOfBoundsException {
        if (line < 0 || line >= LINES) {
            throw new IndexOutOfBoundsException("no such line");
        }
        return chip.lines.handled[line];
    }

    public int late() {
        return chip.processor.late;
    }

    public int chained() {
        return chip.processor.chained;
    }

    public int resets() {
        return chip.watchdog.resets;
    }

    public int lastReset() throws NoSuchElementException {
        if (chip.watchdog.resets == 0) {
            throw new NoSuchElementException("there was no reset");
        }
        return chip.watchdog.lastReset;
    }

    public long energy() {
        return chip.energy;
    }

    public float asleepShare() throws ArithmeticException {
        if (chip.time == 0) {
            throw new ArithmeticException("the time is 0");
        }
        return (float) chip.asleepBeats / (float) chip.time;
    }

    public double meanEnergy() throws ArithmeticException {
        if (chip.time == 0) {
            throw new ArithmeticException("the time is 0");
        }
        return (double) chip.energy / (double) chip.time;
    }

    public boolean isConsistent() {
        copyByEvents.copyFrom(chip);
        copyByBeats.copyFrom(chip);
        copyByEvents.goByEvents(CHECKED_BEATS);
        copyByBeats.goByBeats(CHECKED_BEATS);
        return copyByEvents.isSameAs(copyByBeats);
    }

    // ---- small helpers

    /** How many targets an action of a handler can have, from 0 on; 0 if there is no such action. */
    private static int targetsOf(char action) {
        switch (action) {
            case 'n':
            case 'f':
                return 1;
            case 'p':
                return PINS;
            case 's':
            case 'x':
                return TIMERS;
            case 'q':
                return LINES;
            default:
                return 0;
        }
    }

    private static boolean hasBit(int bits, int index) {
        return (bits >> index & 1) != 0;
    }

    private static int withBit(int bits, int index, boolean isSet) {
        return isSet ? bits | 1 << index : bits & ~(1 << index);
    }

    private static void copyInts(int[] from, int[] to) {
        System.arraycopy(from, 0, to, 0, Math.min(from.length, to.length));
    }

    private static boolean areSameInts(int[] some, int[] others, int length) {
        for (int i = 0; i < length && i < some.length && i < others.length; i++) {
            if (some[i] != others[i]) {
                return false;
            }
        }
        return true;
    }

    /** The clocks; that with the number 0 has neither source nor divider. */
    private static final class Clocks {
        final int[] source = new int[CLOCKS];
        final int[] divider = new int[CLOCKS];
        final int[] count = new int[CLOCKS];
        final int[] ticks = new int[CLOCKS];
        /** The ticks of the last step alone, of which timers and watchdog count in that step. */
        final int[] fresh = new int[CLOCKS];
        int on;

        Clocks() {
            Arrays.fill(divider, 1);
            on = (1 << CLOCKS) - 1;
        }

        int freshOf(int clock) {
            return clock < 0 || clock >= CLOCKS ? 0 : fresh[clock];
        }

        void goBeat(boolean areStopped) {
            fresh[0] = 1;
            ticks[0]++;
            for (int clock = 1; clock < CLOCKS; clock++) {
                fresh[clock] = 0;
                if (areStopped || !hasBit(on, clock) || freshOf(source[clock]) == 0) {
                    continue;
                }
                count[clock]++;
                if (count[clock] >= divider[clock]) {
                    count[clock] = 0;
                    ticks[clock]++;
                    fresh[clock] = 1;
                }
            }
        }

        void skip(int beats, boolean areStopped) {
            fresh[0] = beats;
            ticks[0] += beats;
            for (int clock = 1; clock < CLOCKS; clock++) {
                int counted = areStopped || !hasBit(on, clock) ? 0 : freshOf(source[clock]);
                int toFirst = Math.max(1, divider[clock] - count[clock]);
                int by = divider[clock];
                if (counted < toFirst || by < 1) {
                    count[clock] += counted;
                    fresh[clock] = 0;
                } else {
                    count[clock] = (counted - toFirst) % by;
                    fresh[clock] = 1 + (counted - toFirst) / by;
                }
                ticks[clock] += fresh[clock];
            }
        }

        /** In how many beats a clock ticks for so many times, or NEVER. */
        int beatsUntil(int clock, int wanted, boolean areStopped) {
            int at = clock;
            int needed = wanted;
            for (int i = 0; i < CLOCKS && at > 0 && at < CLOCKS; i++) {
                if (areStopped || !hasBit(on, at)) {
                    return NEVER;
                }
                needed = Math.max(1, divider[at] - count[at]) + (needed - 1) * divider[at];
                at = source[at];
            }
            return needed;
        }

        void copyFrom(Clocks other) {
            copyInts(other.source, source);
            copyInts(other.divider, divider);
            copyInts(other.count, count);
            copyInts(other.ticks, ticks);
            on = other.on;
        }

        boolean isSameAs(Clocks other) {
            return on == other.on
                    && areSameInts(source, other.source, CLOCKS)
                    && areSameInts(divider, other.divider, CLOCKS)
                    && areSameInts(count, other.count, CLOCKS)
                    && areSameInts(ticks, other.ticks, CLOCKS);
        }
    }

    /** The timers; `once` and `running` hold a bit for each of them. */
    private static final class Timers {
        final int[] clock = new int[TIMERS];
        final int[] period = new int[TIMERS];
        final int[] compare = new int[TIMERS];
        final int[] linkedTo = new int[TIMERS];
        final int[] count = new int[TIMERS];
        final int[] pin = new int[TIMERS];
        final int[] action = new int[TIMERS];
        int once;
        int running;

        Timers() {
            Arrays.fill(period, 10);
            Arrays.fill(compare, 10);
            Arrays.fill(linkedTo, NONE);
            Arrays.fill(action, 'n');
        }

        /**
         * Returns the lines that are requested by this, as bits: that of its number for each timer
         * that compares, that of TIMERS more for each one that overflows.
         */
        int goBeat(Clocks clocks) {
            int due = 0;
            for (int timer = 0; timer < TIMERS; timer++) {
                boolean hasCause = linkedTo[timer] == NONE
                        ? clocks.freshOf(clock[timer]) > 0
                        : hasBit(due, TIMERS + linkedTo[timer]);
                if (!hasCause || !hasBit(running, timer)) {
                    continue;
                }
                count[timer]++;
                if (count[timer] == compare[timer]) {
                    due = withBit(due, timer, true);
                }
                if (count[timer] >= period[timer]) {
                    due = withBit(due, TIMERS + timer, true);
                    count[timer] = 0;
                    running = withBit(running, timer, !hasBit(once, timer));
                }
            }
            return due;
        }

        /** A linked timer counts at an event of another one only, so never in beats that are skipped. */
        private boolean countsByClock(int timer) {
            return hasBit(running, timer)
                    && timer >= 0 && timer < TIMERS && linkedTo[timer] == NONE;
        }

        void skip(Clocks clocks) {
            for (int timer = 0; timer < TIMERS; timer++) {
                if (countsByClock(timer)) {
                    count[timer] += clocks.freshOf(clock[timer]);
                }
            }
        }

        int beatsToEvent(Clocks clocks, boolean areStopped) {
            int next = NEVER;
            for (int timer = 0; timer < TIMERS; timer++) {
                if (!countsByClock(timer)) {
                    continue;
                }
                int counts = Math.max(1, period[timer] - count[timer]);
                if (compare[timer] > count[timer]) {
                    counts = Math.min(counts, compare[timer] - count[timer]);
                }
                next = Math.min(next, clocks.beatsUntil(clock[timer], counts, areStopped));
            }
            return next;
        }

        void stopAll() {
            running = 0;
            Arrays.fill(count, 0);
        }

        void copyFrom(Timers other) {
            copyInts(other.clock, clock);
            copyInts(other.period, period);
            copyInts(other.compare, compare);
            copyInts(other.linkedTo, linkedTo);
            copyInts(other.count, count);
            copyInts(other.pin, pin);
            copyInts(other.action, action);
            once = other.once;
            running = other.running;
        }

        boolean isSameAs(Timers other) {
            return once == other.once
                    && running == other.running
                    && areSameInts(clock, other.clock, TIMERS)
                    && areSameInts(period, other.period, TIMERS)
                    && areSameInts(compare, other.compare, TIMERS)
                    && areSameInts(linkedTo, other.linkedTo, TIMERS)
                    && areSameInts(count, other.count, TIMERS)
                    && areSameInts(pin, other.pin, TIMERS)
                    && areSameInts(action, other.action, TIMERS);
        }
    }

    /** The pins and the edges that were kept of them. */
    private static final class Probe {
        final int[] edgeTimes = new int[KEPT_EDGES];
        final int[] edgePins = new int[KEPT_EDGES];
        int levels;
        int edges;

        /** Any other action than 's', 'c' and 't' leaves the pin as it is. */
        void put(int pin, int action, int time) {
            boolean wasHigh = hasBit(levels, pin);
            boolean changes = action == 't' || action == 's' && !wasHigh || action == 'c' && wasHigh;
            if (!changes) {
                return;
            }
            levels = withBit(levels, pin, !wasHigh);
            if (edges >= 0 && edges < KEPT_EDGES) {
                edgeTimes[edges] = time;
                edgePins[edges] = wasHigh ? pin : PINS + pin;
            }
            edges++;
        }

        void copyFrom(Probe other) {
            copyInts(other.edgeTimes, edgeTimes);
            copyInts(other.edgePins, edgePins);
            levels = other.levels;
            edges = other.edges;
        }

        boolean isSameAs(Probe other) {
            return levels == other.levels
                    && edges == other.edges
                    && areSameInts(edgeTimes, other.edgeTimes, Math.min(edges, KEPT_EDGES))
                    && areSameInts(edgePins, other.edgePins, Math.min(edges, KEPT_EDGES));
        }
    }

    /** The lines and their handlers; `enabled` and `requested` hold a bit for each line. */
    private static final class Lines {
        final int[] rank = new int[LINES];
        final int[] beats = new int[LINES];
        final int[] action = new int[LINES];
        final int[] target = new int[LINES];
        final int[] handled = new int[LINES];
        int enabled;
        int requested;

        Lines() {
            Arrays.fill(rank, MOST_RANK);
            Arrays.fill(beats, 1);
            Arrays.fill(action, 'n');
        }

        int first() {
            int waiting = enabled & requested;
            int best = NONE;
            int bestRank = MOST_RANK + 1;
            for (int line = 0; line < LINES && waiting != 0; line++) {
                if (hasBit(waiting, line) && rank[line] < bestRank) {
                    best = line;
                    bestRank = rank[line];
                }
            }
            return best;
        }

        /** NONE has a rank behind all others: each line is more urgent than it. */
        private int rankOf(int line) {
            return line < 0 || line >= LINES ? MOST_RANK + 1 : rank[line];
        }

        boolean isMoreUrgent(int line, int than) {
            return rankOf(line) < rankOf(than);
        }

        int beatsOf(int line) {
            return line < 0 || line >= LINES ? 1 : beats[line];
        }

        void copyFrom(Lines other) {
            copyInts(other.rank, rank);
            copyInts(other.beats, beats);
            copyInts(other.action, action);
            copyInts(other.target, target);
            copyInts(other.handled, handled);
            enabled = other.enabled;
            requested = other.requested;
        }

        boolean isSameAs(Lines other) {
            return enabled == other.enabled
                    && requested == other.requested
                    && areSameInts(rank, other.rank, LINES)
                    && areSameInts(beats, other.beats, LINES)
                    && areSameInts(action, other.action, LINES)
                    && areSameInts(target, other.target, LINES)
                    && areSameInts(handled, other.handled, LINES);
        }
    }

    /** The handlers that were begun and not ended, the last one on top. */
    private static final class Row {
        /** Grown when needed: as ranks are changed, one line can stand in the row several times. */
        int[] lines = new int[LINES];
        int[] beats = new int[LINES];
        int size;

        void push(int line, int itsBeats) {
            if (size >= lines.length && size < MOST_BEGUN) {
                lines = Arrays.copyOf(lines, size + size);
                beats = Arrays.copyOf(beats, size + size);
            }
            if (size >= 0 && size < lines.length && size < beats.length && size < MOST_BEGUN) {
                lines[size] = line;
                beats[size] = itsBeats;
                size++;
            }
        }

        int topLine() {
            return size < 1 || size > lines.length ? NONE : lines[size - 1];
        }

        int topBeats() {
            return size < 1 || size > beats.length ? 0 : beats[size - 1];
        }

        void takeBeats(int taken) {
            if (size >= 1 && size <= beats.length) {
                beats[size - 1] -= taken;
            }
        }

        void pop() {
            if (size > 0) {
                size--;
            }
        }

        void copyFrom(Row other) {
            if (lines.length < other.lines.length) {
                lines = new int[other.lines.length];
                beats = new int[other.lines.length];
            }
            copyInts(other.lines, lines);
            copyInts(other.beats, beats);
            size = other.size;
        }

        boolean isSameAs(Row other) {
            return size == other.size
                    && areSameInts(lines, other.lines, size)
                    && areSameInts(beats, other.beats, size);
        }
    }

    /** What the processor is, and how deep it sleeps. */
    private static final class Processor {
        final Row begun = new Row();
        char state = IDLE;
        /** The beats left of waking, entering or exiting; each handler has its own ones in the row. */
        int left;
        int entered = NONE;
        int sleepDepth;
        int late;
        int chained;

        boolean isDeepAsleep() {
            return state == ASLEEP && sleepDepth == DEEP;
        }

        int energyOfBeat() {
            if (state != ASLEEP) {
                return 5;
            }
            return sleepDepth == DEEP ? 1 : 2;
        }

        /** Returns the line whose handler has ended by this, or NONE; its action is still to be done. */
        int goBeat(Lines lines) {
            int first = lines.first();
            switch (state) {
                case IDLE:
                    goIdleBeat(first);
                    return NONE;
                case ASLEEP:
                    if (first != NONE) {
                        state = WAKING;
                        left = sleepDepth == DEEP ? DEEP_WAKE_BEATS : WAKE_BEATS;
                    }
                    return NONE;
                case ENTERING:
                    goEnteringBeat(first, lines);
                    return NONE;
                case IN_HANDLER:
                    return goHandlerBeat(first, lines);
                default:
                    goWaitingBeat();
                    return NONE;
            }
        }

        private void goIdleBeat(int first) {
            if (first != NONE) {
                enter(first, ENTRY_BEATS);
            } else if (sleepDepth != 0) {
                state = ASLEEP;
            }
        }

        private void goEnteringBeat(int first, Lines lines) {
            if (lines.isMoreUrgent(first, entered)) {
                entered = first;
                late++;
            }
            left--;
            if (left < 1) {
                lines.requested = withBit(lines.requested, entered, false);
                begun.push(entered, lines.beatsOf(entered));
                entered = NONE;
                state = IN_HANDLER;
            }
        }

        private int goHandlerBeat(int first, Lines lines) {
            int top = begun.topLine();
            if (lines.isMoreUrgent(first, top)) {
                enter(first, ENTRY_BEATS);
                return NONE;
            }
            begun.takeBeats(1);
            if (begun.topBeats() > 0) {
                return NONE;
            }
            begun.pop();
            return top;
        }

        /** Waking or exiting. */
        private void goWaitingBeat() {
            left--;
            if (left < 1) {
                state = begun.size > 0 ? IN_HANDLER : IDLE;
            }
        }

        private void enter(int line, int beats) {
            entered = line;
            left = beats;
            state = ENTERING;
        }

        /** What is done behind the action of a handler that has ended. */
        void leaveHandler(Lines lines) {
            int first = lines.first();
            if (lines.isMoreUrgent(first, begun.topLine())) {
                enter(first, CHAINED_BEATS);
                chained++;
            } else {
                state = EXITING;
                left = EXIT_BEATS;
            }
        }

        int beatsToEvent(Lines lines) {
            int first = lines.first();
            switch (state) {
                case IDLE:
                    return first != NONE || sleepDepth != 0 ? 1 : NEVER;
                case ASLEEP:
                    return first != NONE ? 1 : NEVER;
                case ENTERING:
                    return lines.isMoreUrgent(first, entered) ? 1 : left;
                case IN_HANDLER:
                    return lines.isMoreUrgent(first, begun.topLine()) ? 1 : begun.topBeats();
                default:
                    return left;
            }
        }

        void skip(int beats) {
            if (state == IN_HANDLER) {
                begun.takeBeats(beats);
            } else if (state != IDLE && state != ASLEEP) {
                left -= beats;
            }
        }

        void reset() {
            begun.size = 0;
            state = IDLE;
            left = 0;
            entered = NONE;
        }

        void copyFrom(Processor other) {
            begun.copyFrom(other.begun);
            state = other.state;
            left = other.left;
            entered = other.entered;
            sleepDepth = other.sleepDepth;
            late = other.late;
            chained = other.chained;
        }

        boolean isSameAs(Processor other) {
            return begun.isSameAs(other.begun)
                    && state == other.state
                    && left == other.left
                    && entered == other.entered
                    && sleepDepth == other.sleepDepth
                    && late == other.late
                    && chained == other.chained;
        }
    }

    /** The watchdog, which is there if it has a clock, and the resets. */
    private static final class Watchdog {
        int clock = NONE;
        int low;
        int high;
        int count;
        int resets;
        int lastReset;

        /** Returns true if the chip is to be reset. */
        boolean goBeat(Clocks clocks) {
            if (clock == NONE || clocks.freshOf(clock) == 0) {
                return false;
            }
            count++;
            return count == high;
        }

        void skip(Clocks clocks) {
            if (clock != NONE) {
                count += clocks.freshOf(clock);
            }
        }

        int beatsToEvent(Clocks clocks, boolean areStopped) {
            return clock == NONE ? NEVER : clocks.beatsUntil(clock, high - count, areStopped);
        }

        /** Feeds it; returns true if that was too early, so that the chip is to be reset. */
        boolean bitesWhenFed() {
            if (clock == NONE) {
                return false;
            }
            if (count < low) {
                return true;
            }
            count = 0;
            return false;
        }

        void noteReset(int time) {
            count = 0;
            resets++;
            lastReset = time;
        }

        void copyFrom(Watchdog other) {
            clock = other.clock;
            low = other.low;
            high = other.high;
            count = other.count;
            resets = other.resets;
            lastReset = other.lastReset;
        }

        boolean isSameAs(Watchdog other) {
            return clock == other.clock
                    && low == other.low
                    && high == other.high
                    && count == other.count
                    && resets == other.resets
                    && lastReset == other.lastReset;
        }
    }

    /** All of a chip stands here and not in Tickstation, so that a copy can go on by itself. */
    private static final class Chip {
        final Clocks clocks = new Clocks();
        final Timers timers = new Timers();
        final Probe probe = new Probe();
        final Lines lines = new Lines();
        final Processor processor = new Processor();
        final Watchdog watchdog = new Watchdog();
        int time;
        int asleepBeats;
        long energy;

        /** Returns the number of edges. */
        int goByBeats(int beats) {
            int before = probe.edges;
            for (int i = 0; i < beats; i++) {
                goBeat();
            }
            return probe.edges - before;
        }

        /** Skips the beats in which only numbers grow or shrink; returns the number of edges. */
        int goByEvents(int beats) {
            int before = probe.edges;
            int left = beats;
            for (int i = 0; i < beats && left > 0; i++) {
                int still = Math.min(beatsToEvent() - 1, left);
                if (still > 0) {
                    skip(still);
                    left -= still;
                }
                if (left > 0) {
                    goBeat();
                    left--;
                }
            }
            return probe.edges - before;
        }

        int beatsToEvent() {
            boolean areStopped = processor.isDeepAsleep();
            int next = processor.beatsToEvent(lines);
            next = Math.min(next, timers.beatsToEvent(clocks, areStopped));
            return Math.min(next, watchdog.beatsToEvent(clocks, areStopped));
        }

        /** Goes on by beats in none of which there is an event. */
        private void skip(int beats) {
            time += beats;
            clocks.skip(beats, processor.isDeepAsleep());
            timers.skip(clocks);
            watchdog.skip(clocks);
            processor.skip(beats);
            countEnergy(beats);
        }

        private void goBeat() {
            time++;
            clocks.goBeat(processor.isDeepAsleep());
            int due = timers.goBeat(clocks);
            lines.requested |= due;
            changePins(due);
            if (watchdog.goBeat(clocks)) {
                reset();
            } else {
                endHandler(processor.goBeat(lines));
            }
            countEnergy(1);
        }

        private void changePins(int compared) {
            for (int timer = 0; timer < TIMERS; timer++) {
                if (hasBit(compared, timer)) {
                    probe.put(timers.pin[timer], timers.action[timer], time);
                }
            }
        }

        /** Does nothing for NONE: then no handler has ended in the beat. */
        private void endHandler(int line) {
            if (line < 0 || line >= LINES) {
                return;
            }
            lines.handled[line]++;
            if (lines.action[line] == 'f' && watchdog.bitesWhenFed()) {
                reset();
                return;
            }
            act(lines.action[line], lines.target[line]);
            processor.leaveHandler(lines);
        }

        private void act(int action, int target) {
            switch (action) {
                case 'p':
                    probe.put(target, 't', time);
                    break;
                case 's':
                    timers.running = withBit(timers.running, target, true);
                    break;
                case 'x':
                    timers.running = withBit(timers.running, target, false);
                    break;
                case 'q':
                    lines.requested = withBit(lines.requested, target, true);
                    break;
                default:
                    break;
            }
        }

        private void countEnergy(int beats) {
            long ofBeat = processor.energyOfBeat() + Integer.bitCount(timers.running);
            energy += ofBeat * beats;
            if (processor.state == ASLEEP) {
                asleepBeats += beats;
            }
        }

        void reset() {
            for (int pin = 0; pin < PINS; pin++) {
                probe.put(pin, 'c', time);
            }
            timers.stopAll();
            lines.requested = 0;
            processor.reset();
            watchdog.noteReset(time);
        }

        void copyFrom(Chip other) {
            clocks.copyFrom(other.clocks);
            timers.copyFrom(other.timers);
            probe.copyFrom(other.probe);
            lines.copyFrom(other.lines);
            processor.copyFrom(other.processor);
            watchdog.copyFrom(other.watchdog);
            time = other.time;
            asleepBeats = other.asleepBeats;
            energy = other.energy;
        }

        boolean isSameAs(Chip other) {
            return clocks.isSameAs(other.clocks)
                    && timers.isSameAs(other.timers)
                    && probe.isSameAs(other.probe)
                    && lines.isSameAs(other.lines)
                    && processor.isSameAs(other.processor)
                    && watchdog.isSameAs(other.watchdog)
                    && time == other.time
                    && asleepBeats == other.asleepBeats
                    && energy == other.energy;
        }
    }
}
