import java.util.ArrayList;
import java.util.List;

/**
 * The document's words again, beat by beat and in no hurry, to hold Tickstation against. It is
 * written apart from Tickstation, knows nothing of events but whether a beat had one, and throws
 * nothing: the tests that use it know which arguments are wrong.
 */
final class SlowChip {
    static final class Clock {
        int source = 0;
        int divider = 1;
        boolean on = true;
        int count = 0;
        int ticks = 0;
        boolean ticksNow = false;
    }

    static final class Timer {
        int clock = 0;
        int period = 10;
        int compare = 10;
        char mode = 'r';
        boolean runs = false;
        int count = 0;
        int linked = -1;
        int pin = 0;
        char pinAction = 'n';
        boolean overflowsNow = false;
    }

    static final class Line {
        boolean enabled = false;
        int rank = 7;
        boolean requested = false;
        int beats = 1;
        char action = 'n';
        int target = 0;
        int handled = 0;
    }

    static final class Begun {
        final int line;
        int left;

        Begun(int line, int left) {
            this.line = line;
            this.left = left;
        }
    }

    final Clock[] clocks = {new Clock(), new Clock(), new Clock(), new Clock()};
    final Timer[] timers = {new Timer(), new Timer(), new Timer(), new Timer()};
    final Line[] lines = new Line[8];
    final boolean[] high = new boolean[8];
    final List<int[]> edges = new ArrayList<>();
    final List<Begun> row = new ArrayList<>();
    char state = 'i';
    int left = 0;
    int entered = -1;
    int sleep = 0;
    int late = 0;
    int chained = 0;
    boolean hasDog = false;
    int dogClock = 0;
    int dogLow = 0;
    int dogHigh = 0;
    int dogCount = 0;
    int resets = 0;
    int lastReset = -1;
    int time = 0;
    long energy = 0;
    int asleep = 0;

    /** Whether the last beat had an event, as toEvent tells what one is. */
    boolean hadEvent = false;

    SlowChip() {
        for (int i = 0; i < 8; i++) {
            lines[i] = new Line();
        }
    }

    void pinTo(int pin, boolean level) {
        if (high[pin] != level) {
            high[pin] = level;
            edges.add(new int[] {time, level ? pin + 8 : pin});
        }
    }

    void doPin(int pin, char action) {
        if (action == 's') {
            pinTo(pin, true);
        }
        if (action == 'c') {
            pinTo(pin, false);
        }
        if (action == 't') {
            pinTo(pin, !high[pin]);
        }
    }

    int firstLine() {
        for (int rank = 0; rank <= 7; rank++) {
            for (int line = 0; line < 8; line++) {
                if (lines[line].enabled && lines[line].requested && lines[line].rank == rank) {
                    return line;
                }
            }
        }
        return -1;
    }

    boolean firstBeats(int line) {
        int first = firstLine();
        return first >= 0 && lines[first].rank < lines[line].rank;
    }

    void reset() {
        for (int pin = 0; pin < 8; pin++) {
            pinTo(pin, false);
        }
        for (Timer timer : timers) {
            timer.runs = false;
            timer.count = 0;
        }
        for (Line line : lines) {
            line.requested = false;
        }
        row.clear();
        state = 'i';
        dogCount = 0;
        resets++;
        lastReset = time;
    }

    boolean feed() {
        if (!hasDog) {
            return false;
        }
        if (dogCount < dogLow) {
            reset();
            return true;
        }
        dogCount = 0;
        return false;
    }

    void beat() {
        hadEvent = false;
        time++;
        boolean stopped = state == 'z' && sleep == 2;
        for (int i = 0; i < 4; i++) {
            countClock(i, stopped);
        }
        for (int i = 0; i < 4; i++) {
            countTimer(i);
        }
        boolean bites = false;
        if (hasDog && clocks[dogClock].ticksNow) {
            dogCount++;
            bites = dogCount == dogHigh;
        }
        if (bites) {
            hadEvent = true;
            reset();
        } else {
            process();
        }
        if (state == 'z') {
            asleep++;
            energy += sleep == 1 ? 2 : 1;
        } else {
            energy += 5;
        }
        for (Timer timer : timers) {
            energy += timer.runs ? 1 : 0;
        }
    }

    private void countClock(int number, boolean stopped) {
        Clock clock = clocks[number];
        clock.ticksNow = false;
        if (number == 0) {
            clock.ticksNow = true;
        } else if (!stopped && clock.on && clocks[clock.source].ticksNow) {
            clock.count++;
            if (clock.count >= clock.divider) {
                clock.ticksNow = true;
                clock.count = 0;
            }
        }
        if (clock.ticksNow) {
            clock.ticks++;
        }
    }

    private void countTimer(int number) {
        Timer timer = timers[number];
        timer.overflowsNow = false;
        if (!timer.runs) {
            return;
        }
        if (timer.linked < 0 && !clocks[timer.clock].ticksNow) {
            return;
        }
        if (timer.linked >= 0 && !timers[timer.linked].overflowsNow) {
            return;
        }
        timer.count++;
        if (timer.count == timer.compare) {
            hadEvent = true;
            doPin(timer.pin, timer.pinAction);
            lines[number].requested = true;
        }
        if (timer.count >= timer.period) {
            hadEvent = true;
            timer.overflowsNow = true;
            timer.count = 0;
            lines[4 + number].requested = true;
            if (timer.mode == 'o') {
                timer.runs = false;
            }
        }
    }

    private void process() {
        if (state == 'i') {
            if (firstLine() >= 0) {
                hadEvent = true;
                enter(4);
            } else if (sleep != 0) {
                hadEvent = true;
                state = 'z';
            }
        } else if (state == 'z') {
            if (firstLine() >= 0) {
                hadEvent = true;
                state = 'u';
                left = sleep == 2 ? 6 : 1;
            }
        } else if (state == 'u') {
            left--;
            if (left == 0) {
                hadEvent = true;
                state = 'i';
            }
        } else if (state == 'e') {
            processEntering();
        } else if (state == 'h') {
            processHandler();
        } else {
            left--;
            if (left == 0) {
                hadEvent = true;
                state = row.isEmpty() ? 'i' : 'h';
            }
        }
    }

    private void enter(int beats) {
        entered = firstLine();
        left = beats;
        state = 'e';
    }

    private void processEntering() {
        if (firstBeats(entered)) {
            hadEvent = true;
            entered = firstLine();
            late++;
        }
        left--;
        if (left == 0) {
            hadEvent = true;
            lines[entered].requested = false;
            row.add(new Begun(entered, lines[entered].beats));
            state = 'h';
        }
    }

    private void processHandler() {
        Begun top = row.get(row.size() - 1);
        if (firstBeats(top.line)) {
            hadEvent = true;
            enter(4);
            return;
        }
        top.left--;
        if (top.left > 0) {
            return;
        }
        hadEvent = true;
        row.remove(row.size() - 1);
        Line ended = lines[top.line];
        ended.handled++;
        if (ended.action == 'p') {
            doPin(ended.target, 't');
        } else if (ended.action == 's') {
            timers[ended.target].runs = true;
        } else if (ended.action == 'x') {
            timers[ended.target].runs = false;
        } else if (ended.action == 'q') {
            lines[ended.target].requested = true;
        } else if (ended.action == 'f' && feed()) {
            return;
        }
        boolean goesOn = firstLine() >= 0
                && (row.isEmpty() || firstBeats(row.get(row.size() - 1).line));
        if (goesOn) {
            enter(2);
            chained++;
        } else {
            state = 'x';
            left = 3;
        }
    }
}
