/** Promise 15: the range of a loop's sensor. */
public final class RangeTest {
    public static void main(String[] args) {
        Due due = new Due();
        setsTheRange(due);
        takesTheWidest(due);
        takesOneValue(due);
        asksTheMeasuredValueAlone(due);
        leavesTheRest(due);
        theSameAgainChangesNothing(due);
        refusesRanges(due);
        refusesLoops(due);
        due.end();
    }

    private static int faultsOf(double low, double high, double measured) {
        LoopLaws laws = Loops.many(1);
        laws.range(0, low, high);
        laws.tick(0, measured, 0);
        return laws.fault(0);
    }

    // "The range: true."; "m is below or above it"
    private static void setsTheRange(Due due) {
        LoopLaws laws = Loops.many(1);
        due.yes("range", laws.range(0, -5, 30));
        due.number("just below low", faultsOf(-5, 30, Loops.below(-5)), 1);
        due.number("low", faultsOf(-5, 30, -5), 0);
        due.number("just above low", faultsOf(-5, 30, Loops.above(-5)), 0);
        due.number("just below high", faultsOf(-5, 30, Loops.below(30)), 0);
        due.number("high", faultsOf(-5, 30, 30), 0);
        due.number("just above high", faultsOf(-5, 30, Loops.above(30)), 1);
        due.yes("another range", laws.range(0, 40, 50));
        laws.tick(0, 30, 0);
        due.number("outside the new range", laws.fault(0), 1);
        laws.tick(0, 45, 0);
        due.number("within the new range", laws.fault(0), 1);
    }

    // "-1,000,000 <= low", "high <= 1,000,000"
    private static void takesTheWidest(Due due) {
        LoopLaws laws = Loops.many(1);
        due.yes("the widest range", laws.range(0, -1000000, 1000000));
        due.yes("just within", laws.range(0, Loops.above(-1000000), Loops.below(1000000)));
        due.yes("the greatest value", laws.range(0, 1000000, 1000000));
        due.yes("the least value", laws.range(0, -1000000, -1000000));
        due.number("the least reading in the widest", faultsOf(-1000000, 1000000, -1000000), 0);
        due.number("the greatest reading in the widest", faultsOf(-1000000, 1000000, 1000000), 0);
        double low = Loops.above(-1000000);
        double high = Loops.below(1000000);
        due.number("the least reading outside", faultsOf(low, high, -1000000), 1);
        due.number("the greatest reading outside", faultsOf(low, high, 1000000), 1);
    }

    // "low <= high"
    private static void takesOneValue(Due due) {
        LoopLaws laws = Loops.many(1);
        due.yes("a range of one value", laws.range(0, 7, 7));
        due.yes("low just below high", laws.range(0, Loops.below(7), 7));
        due.yes("low 0, high -0", laws.range(0, 0.0, -0.0));
        due.number("just below the one value", faultsOf(7, 7, Loops.below(7)), 1);
        due.number("the one value", faultsOf(7, 7, 7), 0);
        due.number("just above the one value", faultsOf(7, 7, Loops.above(7)), 1);
    }

    private static void asksTheMeasuredValueAlone(Due due) {
        LoopLaws laws = Loops.echoes(2);
        laws.range(0, 0, 10);
        due.number("a target outside the range", laws.tick(0, 5, 500), 495);
        due.number("is no fault", laws.fault(0), 0);
        laws.cascade(0, 1);
        laws.range(1, 0, 10);
        due.number("an outer u outside the range", laws.tick(1, 5, 0), 490);
        due.number("is no fault either", laws.fault(1), 0);
    }

    private static void leavesTheRest(Due due) {
        LoopLaws laws = Loops.echoes(2);
        laws.cascade(0, 1);
        laws.tick(0, 500, 540);
        due.yes("a range that the last reading was outside", laws.range(0, 0, 10));
        due.number("no fault without a tick", laws.fault(0), 0);
        due.number("u stays, and the other loop has no range", laws.tick(1, -500, 0), 540);
        due.number("no fault of the other loop", laws.fault(1), 0);
    }

    // The range that a loop has, set once more, shows that nothing but it is set; the widest range is
    // as good as none.
    private static void theSameAgainChangesNothing(Due due) {
        Refusals refusals = new Refusals(due);
        refusals.yes("the same range by law", laws -> laws.range(0, -40, 90));
        refusals.yes("the same range by hand", laws -> laws.range(1, -50, 50));
        refusals.yes("the same range on and off", laws -> laws.range(2, -55, 55));
        refusals.yes("the widest range where none was", laws -> laws.range(3, -1000000, 1000000));
    }

    // "False, refused, when .. not -1,000,000 <= low <= high <= 1,000,000"; loop 0 has a range, and
    // loop 3 has none.
    private static void refusesRanges(Due due) {
        Refusals refusals = new Refusals(due);
        int[] loops = {0, 3};
        for (int n : loops) {
            for (double v : Loops.outside(-1000000, 1000000)) {
                refusals.no("low " + v, laws -> laws.range(n, v, 1000000));
                refusals.no("high " + v, laws -> laws.range(n, -1000000, v));
                refusals.no("both " + v, laws -> laws.range(n, v, v));
            }
            double[] values = {-1000000, 0, 7, 1000000};
            for (double v : values) {
                refusals.no("low just above high " + v, laws -> laws.range(n, Loops.above(v), v));
                refusals.no("high just below low " + v, laws -> laws.range(n, v, Loops.below(v)));
            }
            refusals.no("the wrong way round", laws -> laws.range(n, 1000000, -1000000));
        }
    }

    // "False, refused, when there is no such loop"
    private static void refusesLoops(Due due) {
        Refusals refusals = new Refusals(due);
        for (int n : Loops.beyond(Plant.LOOPS)) {
            refusals.no("range of loop " + n, laws -> laws.range(n, 7, 8));
        }
        due.yes("range of the last loop", Plant.running().range(Plant.LOOPS - 1, 7, 8));
        due.no("range of loop 16 of 16", Loops.many(16).range(16, 7, 8));
        due.yes("range of loop 15 of 16", Loops.many(16).range(15, 7, 8));
    }
}
