/** Terms: what a loop has at first, on both sides of each first value. */
public final class StartTest {
    public static void main(String[] args) {
        Due due = new Due();
        startsByHand(due);
        startsWithLimits(due);
        startsWithRate(due);
        startsWithSafeValue(due);
        startsWithBand(due);
        startsWithoutRange(due);
        startsWithOutput(due);
        startsWithSum(due);
        startsWithLastError(due);
        startsWithHandValue(due);
        due.end();
    }

    // "a mode: 0 by hand (at first)"
    private static void startsByHand(Due due) {
        LoopLaws laws = Loops.many(0);
        laws.loop(1, 1, 1);
        due.number("neither law nor band at first", laws.tick(0, 0, 10), 0);
        due.yes("a hand value at first", laws.hand(0, 10));
        due.number("which u goes to", laws.tick(0, 0, 0), 10);
    }

    // "limits LOW 0 and HIGH 100"
    private static void startsWithLimits(Due due) {
        LoopLaws laws = Loops.many(1);
        due.no("just below the first LOW", laws.hand(0, Loops.below(0)));
        due.no("just above the first HIGH", laws.hand(0, Loops.above(100)));
        due.yes("the first LOW", laws.hand(0, 0));
        due.yes("the first LOW as -0", laws.hand(0, -0.0));
        due.yes("the first HIGH", laws.hand(0, 100));
        LoopLaws law = Loops.one(1, 0, 0, 1);
        due.number("held by the first HIGH", law.tick(0, 0, 500), 100);
        due.number("held by the first LOW", law.tick(0, 500, 0), 0);
    }

    // "a RATE 100"
    private static void startsWithRate(Due due) {
        due.number("up by 100", backFrom(-100), 0);
        due.number("up by 100 of a little more", backFrom(Loops.below(-100)), Loops.below(-100) + 100);
        due.number("down by 100", backFrom(100), 0);
        due.number("down by 100 of a little more", backFrom(Loops.above(100)), Loops.above(100) - 100);
        due.number("up by 100 of all", backFrom(-10000), -9900);
        due.number("down by 100 of all", backFrom(10000), 9900);
    }

    // The first hand value is 0, so that u goes back to 0.
    private static double backFrom(double u) {
        LoopLaws laws = Loops.many(1);
        Loops.force(laws, 0, u);
        return laws.tick(0, 0, 0);
    }

    // "a SAFE value 0"
    private static void startsWithSafeValue(Due due) {
        LoopLaws laws = Loops.many(1);
        laws.hand(0, 40);
        due.number("by hand", laws.tick(0, 0, 0), 40);
        laws.range(0, 0, 0);
        due.number("a fault goes to the first safe value", laws.tick(0, 1, 0), 0);
    }

    // "a BAND -1 to 1"
    private static void startsWithBand(Due due) {
        LoopLaws laws = Loops.one(0, 0, 0, 2);
        due.number("on the band's high", laws.tick(0, 0, 1), 0);
        due.number("just above it", laws.tick(0, 0, Loops.above(1)), 100);
        due.number("on the band's low", laws.tick(0, 0, -1), 100);
        due.number("just below it", laws.tick(0, 0, Loops.below(-1)), 0);
    }

    // "no RANGE"
    private static void startsWithoutRange(Due due) {
        LoopLaws laws = Loops.one(1, 0, 0, 1);
        laws.safe(0, 70);
        due.number("the least reading", laws.tick(0, -1000000, 0), 100);
        due.number("the greatest reading", laws.tick(0, 1000000, 0), 0);
        due.number("no fault", laws.fault(0), 0);
    }

    // "an OUTPUT u .. 0"; an inner loop tells it before the first tick.
    private static void startsWithOutput(Due due) {
        LoopLaws laws = Loops.echoes(2);
        laws.cascade(0, 1);
        due.number("the first u is 0", laws.tick(1, 0, 50), 0);
        LoopLaws narrow = Loops.many(1);
        narrow.limits(0, 10, 20, 1);
        narrow.mode(0, 2);
        due.number("u is 0 outside the limits too", narrow.tick(0, 0, 0), 0);
    }

    // "a SUM s .. 0"
    private static void startsWithSum(Due due) {
        LoopLaws laws = Loops.one(0, 1, 0, 1);
        due.number("the first sum is 0", laws.tick(0, 0, 5), 5);
    }

    // "a last error l .. 0"
    private static void startsWithLastError(Due due) {
        LoopLaws laws = Loops.one(0, 0, 1, 1);
        due.number("the first last error is 0", laws.tick(0, 0, 5), 5);
    }

    // "a HAND value h, all 0"
    private static void startsWithHandValue(Due due) {
        LoopLaws laws = Loops.many(1);
        Loops.force(laws, 0, 40);
        due.number("the first hand value is 0", laws.tick(0, 0, 0), 0);
    }
}
