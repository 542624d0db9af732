/** An object at work: loops in all three modes, led, faulty, tuned and split. */
final class Plant {
    static final int LOOPS = 4;
    static final int SPLITS = 2;

    private Plant() {
    }

    /** Loop 0 is by its law, 1 by hand and led by 0, 2 on and off, and 3 as it was made. */
    static LoopLaws running() {
        LoopLaws laws = new LoopLaws();
        laws.loop(2, 0.5, 1);
        laws.loop(1, 0.25, 0);
        laws.loop(0.5, 0, 0);
        laws.loop(1, 1, 1);
        startByLaw(laws);
        startByHand(laws);
        startOnAndOff(laws);
        laws.split(0, 20);
        laws.split(2, 30);
        return laws;
    }

    /** The same, but each loop is made behind the work of the one before, and split before its own. */
    static LoopLaws grown() {
        LoopLaws laws = new LoopLaws();
        laws.loop(2, 0.5, 1);
        laws.split(0, 20);
        startByLaw(laws);
        laws.loop(1, 0.25, 0);
        startByHand(laws);
        laws.loop(0.5, 0, 0);
        laws.split(2, 30);
        startOnAndOff(laws);
        laws.loop(1, 1, 1);
        return laws;
    }

    private static void startByLaw(LoopLaws laws) {
        laws.limits(0, 5, 65, 7);
        laws.safe(0, 33);
        laws.band(0, -2, 3);
        laws.range(0, -40, 90);
        laws.mode(0, 1);
        laws.tick(0, 91, 0);
        laws.tick(0, 10, 18);
        laws.tune(0, 40);
    }

    // The hand value stays far off, so that u is another one.
    private static void startByHand(LoopLaws laws) {
        laws.limits(1, -20, 80, 4);
        laws.safe(1, -6);
        laws.band(1, -4, 4);
        laws.range(1, -50, 50);
        laws.hand(1, 20);
        laws.tick(1, 51, 5);
        laws.tick(1, 3, 5);
        laws.tune(1, 40);
        laws.cascade(0, 1);
    }

    private static void startOnAndOff(LoopLaws laws) {
        laws.limits(2, 10, 50, 15);
        laws.safe(2, 23);
        laws.band(2, -1.5, 2.5);
        laws.range(2, -55, 55);
        laws.mode(2, 2);
        laws.tick(2, 56, 0);
        laws.tick(2, 0, 4);
        laws.tune(2, 60);
    }
}
