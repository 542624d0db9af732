/** Promise 3: the limits and the rate of a loop. */
public final class LimitsTest {
    public static void main(String[] args) {
        Due due = new Due();
        setsLimitsFromNowOn(due);
        leavesTheOutput(due);
        leavesOtherLoops(due);
        takesTheWidest(due);
        takesTheNarrowest(due);
        takesRates(due);
        theSameAgainChangeNothing(due);
        refusesLimits(due);
        refusesRates(due);
        refusesLoops(due);
        due.end();
    }

    // "LOW, HIGH and rate of a loop from now on .. True."
    private static void setsLimitsFromNowOn(Due due) {
        LoopLaws laws = Loops.one(1, 0, 0, 1);
        due.number("up to the first HIGH", laws.tick(0, 0, 150), 100);
        due.yes("limits", laws.limits(0, 10, 20, 1000));
        due.number("to HIGH", laws.tick(0, 0, 150), 20);
        due.number("to LOW", laws.tick(0, 150, 0), 10);
        due.number("between", laws.tick(0, 0, 12.5), 12.5);
        due.yes("limits below 0", laws.limits(0, -20, -10, 1000));
        due.number("to a LOW below 0", laws.tick(0, 50, 0), -20);
        due.number("to a HIGH below 0", laws.tick(0, 0, 50), -10);
        due.yes("another rate", laws.limits(0, -20, -10, 2));
        due.number("by the rate", laws.tick(0, 50, 0), -12);
    }

    // "u stays"; no call tells u without a tick, but an inner loop has it as its target.
    private static void leavesTheOutput(Due due) {
        LoopLaws laws = Loops.echoes(2);
        laws.cascade(0, 1);
        laws.tick(0, 0, 40);
        due.yes("limits above u", laws.limits(0, 50, 60, 1));
        due.number("u below LOW stays", laws.tick(1, 0, 0), 40);
        due.yes("limits below u", laws.limits(0, 20, 30, 1));
        due.number("u above HIGH stays", laws.tick(1, 0, 0), 40);
        due.yes("limits about u", laws.limits(0, 40, 41, 1));
        due.number("u within stays", laws.tick(1, 0, 0), 40);
    }

    private static void leavesOtherLoops(Due due) {
        LoopLaws laws = Loops.echoes(3);
        laws.limits(1, 5, 6, 7);
        due.number("the one before", laws.tick(0, 0, 300), 300);
        due.number("the one behind", laws.tick(2, 0, 300), 300);
        due.number("the one itself", laws.tick(1, 0, 300), 6);
    }

    // "-10,000 <= low", "high <= 10,000"
    private static void takesTheWidest(Due due) {
        LoopLaws laws = Loops.one(1, 0, 0, 1);
        due.yes("the widest limits", laws.limits(0, -10000, 10000, 10000));
        due.number("the greatest HIGH", laws.tick(0, 0, 20000), 10000);
        due.number("down again", laws.tick(0, 0, 0), 0);
        due.number("the least LOW", laws.tick(0, 20000, 0), -10000);
        due.yes("just within", laws.limits(0, Loops.above(-10000), Loops.below(10000), 10000));
        due.number("just above the least", laws.tick(0, 20000, 0), Loops.above(-10000));
        due.yes("at the upper end", laws.limits(0, Loops.below(10000), 10000, 1));
        due.yes("at the lower end", laws.limits(0, -10000, Loops.above(-10000), 1));
    }

    // "low < high"
    private static void takesTheNarrowest(Due due) {
        LoopLaws laws = Loops.one(1, 0, 0, 1);
        due.yes("just apart", laws.limits(0, 5, Loops.above(5), 100));
        due.number("to LOW", laws.tick(0, 0, 0), 5);
        due.number("to HIGH", laws.tick(0, 0, 50), Loops.above(5));
        due.yes("just apart at 0", laws.limits(0, 0, Double.MIN_VALUE, 100));
        due.number("to that HIGH", laws.tick(0, 0, 50), Double.MIN_VALUE);
    }

    // "the rate is not above 0 and at most 10,000": what is.
    private static void takesRates(Due due) {
        LoopLaws laws = Loops.one(1, 0, 0, 1);
        due.yes("the least rate", laws.limits(0, 0, 100, Double.MIN_VALUE));
        due.number("by the least rate", laws.tick(0, 0, 50), Double.MIN_VALUE);
        due.number("by the least rate again", laws.tick(0, 0, 50), 2 * Double.MIN_VALUE);
        due.yes("just below the greatest rate", laws.limits(0, -10000, 10000, Loops.below(10000)));
        Loops.force(laws, 0, 0);
        due.number("by just below", laws.tick(0, 0, 10000), Loops.below(10000));
        due.yes("the greatest rate", laws.limits(0, -10000, 10000, 10000));
        Loops.force(laws, 0, 0);
        due.number("by the greatest rate", laws.tick(0, 0, 10000), 10000);
    }

    // The limits that a loop has, set once more, show that nothing but them is set.
    private static void theSameAgainChangeNothing(Due due) {
        Refusals refusals = new Refusals(due);
        refusals.yes("the same limits by law", laws -> laws.limits(0, 5, 65, 7));
        refusals.yes("the same limits by hand", laws -> laws.limits(1, -20, 80, 4));
        refusals.yes("the same limits on and off", laws -> laws.limits(2, 10, 50, 15));
        refusals.yes("the limits of a new loop", laws -> laws.limits(3, 0, 100, 100));
    }

    // "False, refused, when .. not -10,000 <= low < high <= 10,000"
    private static void refusesLimits(Due due) {
        Refusals refusals = new Refusals(due);
        for (double v : Loops.outside(-10000, 10000)) {
            refusals.no("LOW " + v, laws -> laws.limits(0, v, 10000, 3));
            refusals.no("HIGH " + v, laws -> laws.limits(0, -10000, v, 3));
            refusals.no("both " + v, laws -> laws.limits(0, v, v, 3));
        }
        refusals.no("LOW just below the least", laws -> laws.limits(0, Loops.below(-10000), -10000, 3));
        refusals.no("HIGH just above the greatest", laws -> laws.limits(0, 10000, Loops.above(10000), 3));
        double[] same = {-10000, 0, 5, 10000};
        for (double v : same) {
            refusals.no("LOW is HIGH " + v, laws -> laws.limits(0, v, v, 3));
            refusals.no("LOW just above HIGH " + v, laws -> laws.limits(0, v, Loops.below(v), 3));
        }
        refusals.no("LOW -0 is HIGH 0", laws -> laws.limits(0, -0.0, 0.0, 3));
        refusals.no("LOW far above HIGH", laws -> laws.limits(0, 10000, -10000, 3));
    }

    // "False, refused, when .. the rate is not above 0 and at most 10,000"
    private static void refusesRates(Due due) {
        Refusals refusals = new Refusals(due);
        for (double v : Loops.outside(Double.MIN_VALUE, 10000)) {
            refusals.no("rate " + v, laws -> laws.limits(0, 1, 2, v));
        }
        double[] wrong = {0, -0.0, -Double.MIN_VALUE, -1, -10000};
        for (double v : wrong) {
            refusals.no("rate " + v, laws -> laws.limits(0, 1, 2, v));
            refusals.no("rate by hand " + v, laws -> laws.limits(1, 1, 2, v));
        }
    }

    // "False, refused, when there is no such loop"
    private static void refusesLoops(Due due) {
        Refusals refusals = new Refusals(due);
        for (int n : Loops.beyond(Plant.LOOPS)) {
            refusals.no("limits of loop " + n, laws -> laws.limits(n, 1, 2, 3));
        }
        due.yes("limits of the last loop", Plant.running().limits(Plant.LOOPS - 1, 1, 2, 3));
        due.yes("limits of the first loop", Plant.running().limits(0, 1, 2, 3));
        due.no("limits of loop 16 of 16", Loops.many(16).limits(16, 1, 2, 3));
        due.yes("limits of loop 15 of 16", Loops.many(16).limits(15, 1, 2, 3));
    }
}
