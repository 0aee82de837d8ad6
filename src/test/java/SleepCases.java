/** setSleep, and what of the terms speaks of its depths. */
final class SleepCases {
    private SleepCases() {
    }

    @Says(promise = 9, words = "Sets the depth of sleep, 0 for none, as at first")
    static void noSleepAtFirst(Way way) {
        Tickstation chip = new Tickstation();
        Bench.due("setSleep", chip.setSleep(0), 0);
        way.go(chip, 100);
        Bench.due("processor", chip.processor(), 'i');
    }

    @Says(promise = 9, words = "a chip that is asleep is asleep at the new depth")
    static void fromTheDepth1To2(Way way) {
        Tickstation chip = Bench.asleep(way, 1);
        chip.setSleep(2);
        Bench.due("processor", chip.processor(), 'z');
        way.go(chip, 10);
        Bench.due("ticks(1)", chip.ticks(1), 1);
        Bench.due("energy", chip.energy(), 12);
        chip.setLine(0, 0, true);
        chip.request(0);
        way.go(chip, 6);
        Bench.due("it wakes as from the depth 2", chip.processor(), 'u');
        way.go(chip, 1);
        Bench.due("processor", chip.processor(), 'i');
    }

    @Says(promise = 9, words = "a chip that is asleep is asleep at the new depth")
    static void fromTheDepth2To1(Way way) {
        Tickstation chip = Bench.asleep(way, 2);
        chip.setSleep(1);
        Bench.due("processor", chip.processor(), 'z');
        way.go(chip, 10);
        Bench.due("ticks(1)", chip.ticks(1), 11);
        Bench.due("energy", chip.energy(), 21);
        chip.setLine(0, 0, true);
        chip.request(0);
        way.go(chip, 2);
        Bench.due("it wakes as from the depth 1", chip.processor(), 'i');
    }

    @Says(promise = 9, words = "a chip that is asleep is asleep at the new depth")
    static void toTheDepthThatItHas(Way way) {
        Tickstation chip = Bench.asleep(way, 2);
        Bench.due("setSleep", chip.setSleep(2), 2);
        Bench.due("processor", chip.processor(), 'z');
    }

    @Says(promise = 9, words = "and for 0, it is idle")
    static void idleAtOnce(Way way) {
        for (int depth = 1; depth < 3; depth++) {
            Tickstation chip = Bench.asleep(way, depth);
            chip.setSleep(0);
            Bench.due("processor", chip.processor(), 'i');
            way.go(chip, 10);
            Bench.due("processor", chip.processor(), 'i');
        }
    }

    @Says(promise = 9, words = "and for 0, it is idle")
    static void idleWithoutWaking(Way way) {
        Tickstation chip = Bench.asleep(way, 2);
        chip.setLine(0, 0, true);
        chip.request(0);
        chip.setSleep(0);
        way.go(chip, 1);
        Bench.due("processor", chip.processor(), 'e');
    }

    @Says(promise = 9, words = "and for 0, it is idle")
    static void oneThatIsNotAsleepStaysWhatItIs(Way way) {
        Tickstation handling = Bench.inHandler(way, 5, 5, 5);
        handling.setSleep(2);
        Bench.due("processor", handling.processor(), 'h');
        handling.setSleep(0);
        Bench.due("processor", handling.processor(), 'h');
        Tickstation waking = Bench.asleep(way, 2);
        waking.setLine(0, 0, true);
        waking.request(0);
        way.go(waking, 2);
        waking.setSleep(0);
        Bench.due("processor", waking.processor(), 'u');
    }

    @Says(promise = 9, words = "`depth`: the depth, 0 to 2")
    static void eachDepth() {
        Tickstation chip = new Tickstation();
        Bench.due("setSleep", chip.setSleep(2), 0);
        Bench.due("setSleep", chip.setSleep(1), 2);
        Bench.due("setSleep", chip.setSleep(0), 1);
    }

    @Says(promise = 9, words = "Returns the depth before.")
    static void answersTheDepthSetAlsoIfTheChipIsAwake(Way way) {
        Tickstation chip = Bench.withLine(5, 5, 1);
        chip.setSleep(2);
        chip.request(5);
        way.go(chip, 3);
        Bench.due("setSleep", chip.setSleep(1), 2);
        Bench.due("setSleep", chip.setSleep(1), 1);
    }

    @Says(promise = 9, words = "Throws `IllegalArgumentException` if it is out of range")
    static void depthBelow0IsRefused() {
        Bench.refused(Bench.BAD, chip -> chip.setSleep(-1));
        Bench.refused(Bench.BAD, chip -> chip.setSleep(Integer.MIN_VALUE));
    }

    @Says(promise = 9, words = "Throws `IllegalArgumentException` if it is out of range")
    static void depth3IsRefused() {
        Bench.refused(Bench.BAD, chip -> chip.setSleep(3));
        Bench.refused(Bench.BAD, chip -> chip.setSleep(Integer.MAX_VALUE));
    }

    @Says(promise = 0, words = "A method that throws an exception changes nothing.")
    static void aRefusedDepthWakesNothing(Way way) {
        Tickstation chip = Bench.asleep(way, 2);
        Bench.dueThrown(chip, Bench.BAD, it -> it.setSleep(3));
        Bench.due("processor", chip.processor(), 'z');
        Bench.dueThrown(chip, Bench.BAD, it -> it.setSleep(-1));
        Bench.due("processor", chip.processor(), 'z');
        Bench.due("setSleep", chip.setSleep(2), 2);
    }
}
