/** Energy: what the terms say of it, energy, asleepShare and meanEnergy; and the order in a beat. */
final class EnergyCases {
    private EnergyCases() {
    }

    private static void dueMore(Way way, Tickstation chip, int beats, long more) {
        long before = chip.energy();
        way.go(chip, beats);
        Bench.due("energy of " + beats + " beats", chip.energy() - before, more);
    }

    // ---- of a beat

    @Says(promise = 0, words = "then energy is counted: 2 if it is asleep at the depth 1, 1 at the depth 2, otherwise 5")
    static void asleepAtTheDepth1(Way way) {
        Tickstation chip = new Tickstation();
        chip.setSleep(1);
        dueMore(way, chip, 1, 2);
        dueMore(way, chip, 100, 200);
    }

    @Says(promise = 0, words = "then energy is counted: 2 if it is asleep at the depth 1, 1 at the depth 2, otherwise 5")
    static void asleepAtTheDepth2(Way way) {
        Tickstation chip = new Tickstation();
        chip.setSleep(2);
        dueMore(way, chip, 1, 1);
        dueMore(way, chip, 100, 100);
    }

    @Says(promise = 0, words = "1 at the depth 2, otherwise 5")
    static void fiveInEachStateAwake(Way way) {
        Tickstation chip = Bench.withLine(5, 5, 3);
        dueMore(way, chip, 3, 15);
        chip.request(5);
        dueMore(way, chip, 12, 60);
        chip.setSleep(2);
        way.go(chip, 5);
        chip.request(5);
        dueMore(way, chip, 18, 90);
        dueMore(way, chip, 1, 1);
    }

    @Says(promise = 0, words = "and 1 more for each timer that runs")
    static void oneMoreForEachTimer(Way way) {
        Tickstation chip = new Tickstation();
        for (int timer = 0; timer < 4; timer++) {
            chip.start(timer, true);
            dueMore(way, chip, 3, 3 * (5 + timer + 1));
        }
        chip.setSleep(2);
        dueMore(way, chip, 3, 3 * (1 + 4));
    }

    @Says(promise = 0, words = "and 1 more for each timer that runs")
    static void oneMoreAlsoIfTheTimerDoesNotCount(Way way) {
        Tickstation chip = new Tickstation();
        chip.setClock(1, 0, 1, false);
        chip.setTimer(2, 1, 5, 5, 'r');
        chip.start(2, true);
        chip.start(3, true);
        chip.link(3, 2);
        dueMore(way, chip, 10, 70);
    }

    @Says(promise = 0, words = "and 1 more for each timer that runs")
    static void noneForOneThatStopsInTheBeat(Way way) {
        Tickstation chip = new Tickstation();
        chip.setTimer(0, 0, 4, 4, 'o');
        chip.start(0, true);
        dueMore(way, chip, 3, 18);
        dueMore(way, chip, 1, 5);
    }

    @Says(promise = 0, words = "then the processor; then energy is counted")
    static void oneMoreForOneThatIsStartedInTheBeat(Way way) {
        Tickstation chip = new Tickstation();
        chip.setLine(0, 0, true);
        chip.setHandler(0, 1, 's', 2);
        chip.request(0);
        dueMore(way, chip, 5, 25);
        dueMore(way, chip, 1, 6);
    }

    @Says(promise = 0, words = "then the processor; then energy is counted")
    static void fiveInTheBeatThatWakes(Way way) {
        Tickstation chip = Bench.asleep(way, 2);
        chip.setLine(0, 0, true);
        chip.request(0);
        dueMore(way, chip, 1, 5);
    }

    @Says(promise = 0, words = "then clocks count and tick, by rising numbers; then timers count, by rising numbers")
    static void clocksAndTimersOfOneBeat(Way way) {
        Tickstation chip = new Tickstation();
        chip.setClock(1, 0, 3, true);
        chip.setClock(2, 1, 1, true);
        chip.setTimer(0, 2, 1, 1, 'r');
        chip.start(0, true);
        Bench.setTimer(chip, 1, 1, 1);
        chip.link(1, 0);
        chip.setPin(0, 0, 't');
        chip.setPin(1, 1, 't');
        way.go(chip, 2);
        Bench.due("edges", chip.edges(), 0);
        way.go(chip, 1);
        Bench.due("edges", chip.edges(), 2);
        Bench.due("edgePin(0)", chip.edgePin(0), 8);
        Bench.due("edgePin(1)", chip.edgePin(1), 9);
    }

    // ---- what is asked

    @Says(promise = 33, words = "Returns the energy.")
    static void noEnergyAtTheTime0() {
        Bench.due("energy", new Tickstation().energy(), 0);
    }

    @Says(promise = 33, words = "Returns the energy.")
    static void theEnergyOfTheLongestUse() {
        Tickstation chip = new Tickstation();
        for (int timer = 0; timer < 4; timer++) {
            chip.start(timer, true);
        }
        for (int call = 4; call < 511; call++) {
            chip.run(5000);
        }
        Bench.due("energy", chip.energy(), 507L * 5000 * 9);
    }

    @Says(promise = 34, words = "Returns the share of the beats behind which the chip was asleep.")
    static void theBeatThatFallsAsleepCounts(Way way) {
        Bench.due("asleepShare", Bench.asleep(way, 1).asleepShare(), 1.0f);
        Bench.due("asleepShare", Bench.asleep(way, 2).asleepShare(), 1.0f);
    }

    @Says(promise = 34, words = "Returns the share of the beats behind which the chip was asleep.")
    static void theBeatThatWakesDoesNotCount(Way way) {
        Tickstation chip = Bench.asleep(way, 1);
        way.go(chip, 1);
        chip.setLine(0, 0, true);
        chip.request(0);
        way.go(chip, 1);
        Bench.due("asleepShare", chip.asleepShare(), 2.0f / 3.0f);
    }

    @Says(promise = 34, words = "Returns the share of the beats behind which the chip was asleep.")
    static void theBeatOfAResetDoesNotCount(Way way) {
        Tickstation chip = Bench.asleep(way, 1);
        chip.setWatchdog(0, 0, 2);
        way.go(chip, 2);
        Bench.due("asleepShare", chip.asleepShare(), 2.0f / 3.0f);
    }

    @Says(promise = 34, words = "Returns the share of the beats behind which the chip was asleep.")
    static void neverAsleep(Way way) {
        Tickstation chip = new Tickstation();
        way.go(chip, 1);
        Bench.due("asleepShare", chip.asleepShare(), 0.0f);
    }

    @Says(promise = 34, words = "Returns their number divided by the time, both converted to float.")
    static void aShareThatFloatRounds(Way way) {
        Tickstation chip = Bench.asleep(way, 1);
        way.go(chip, 6);
        chip.setSleep(0);
        way.go(chip, 3);
        Bench.due("asleepShare", chip.asleepShare(), 7.0f / 10.0f);
        way.go(chip, 1);
        Bench.due("asleepShare", chip.asleepShare(), 7.0f / 11.0f);
    }

    @Says(promise = 34, words = "Throws `ArithmeticException` if the time is 0")
    static void noShareAtTheTime0() {
        Bench.dueThrown(new Tickstation(), Bench.NO_SHARE, Tickstation::asleepShare);
        Tickstation set = new Tickstation();
        set.setSleep(2);
        set.setWatchdog(0, 1, 2);
        set.feed();
        Bench.dueThrown(set, Bench.NO_SHARE, Tickstation::asleepShare);
        set.run(1);
        Bench.due("asleepShare", set.asleepShare(), 1.0f);
    }

    @Says(promise = 35, words = "Returns the mean energy of a beat.")
    static void theMeanOfOneBeat(Way way) {
        Tickstation chip = Bench.withTimer(0, 9, 9);
        way.go(chip, 1);
        Bench.due("meanEnergy", chip.meanEnergy(), 6.0);
    }

    @Says(promise = 35, words = "Returns the energy divided by the time, both converted to double.")
    static void aMeanThatDoubleRounds(Way way) {
        Tickstation chip = Bench.asleep(way, 2);
        way.go(chip, 1);
        chip.setSleep(0);
        way.go(chip, 1);
        Bench.due("meanEnergy", chip.meanEnergy(), 7.0 / 3.0);
        way.go(chip, 3);
        Bench.due("meanEnergy", chip.meanEnergy(), 22.0 / 6.0);
    }

    @Says(promise = 35, words = "Throws `ArithmeticException` if the time is 0")
    static void noMeanAtTheTime0() {
        Bench.dueThrown(new Tickstation(), Bench.NO_SHARE, Tickstation::meanEnergy);
        Tickstation set = new Tickstation();
        set.start(0, true);
        set.request(0);
        Bench.dueThrown(set, Bench.NO_SHARE, Tickstation::meanEnergy);
        set.run(1);
        Bench.due("meanEnergy", set.meanEnergy(), 6.0);
    }
}
