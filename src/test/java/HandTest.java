/** Promise 7: the hand value. */
public final class HandTest {
    public static void main(String[] args) {
        Due due = new Due();
        takesHandValues(due);
        followsTheLimits(due);
        leavesTheOutput(due);
        theSameAgainChangesNothing(due);
        refusesValues(due);
        refusesModes(due);
        refusesLoops(due);
        due.end();
    }

    // "v is below LOW or above HIGH": what is neither.
    private static void takesHandValues(Due due) {
        double[] right = {-5, Loops.above(-5), -0.0, 0, 0.5, Loops.below(5), 5};
        LoopLaws laws = Loops.many(1);
        laws.limits(0, -5, 5, 100);
        for (double v : right) {
            due.yes("hand " + v, laws.hand(0, v));
            due.number("u goes to " + v, laws.tick(0, 0, 0), v);
        }
    }

    private static void followsTheLimits(Due due) {
        LoopLaws laws = Loops.many(1);
        laws.hand(0, 100);
        laws.limits(0, 0, Loops.below(100), 1000);
        due.no("100 is above HIGH now", laws.hand(0, 100));
        due.number("the hand value of before stays", laws.tick(0, 0, 0), 100);
        due.yes("HIGH now", laws.hand(0, Loops.below(100)));
        laws.limits(0, Double.MIN_VALUE, 100, 1000);
        due.no("0 is below LOW now", laws.hand(0, 0));
        due.number("the hand value of before stays still", laws.tick(0, 0, 0), Loops.below(100));
        due.yes("LOW now", laws.hand(0, Double.MIN_VALUE));
        laws.limits(0, -10000, 10000, 10000);
        due.yes("the least LOW", laws.hand(0, -10000));
        due.number("to the least LOW", laws.tick(0, 0, 0), Loops.below(100) - 10000);
        due.yes("the greatest HIGH", laws.hand(0, 10000));
        due.number("to the greatest HIGH", laws.tick(0, 0, 0), Loops.below(100) - 10000 + 10000);
    }

    private static void leavesTheOutput(Due due) {
        LoopLaws laws = Loops.echoes(2);
        laws.cascade(0, 1);
        laws.mode(0, 0);
        due.yes("hand", laws.hand(0, 40));
        due.number("u stays without a tick", laws.tick(1, 0, 9), 0);
        due.number("and moves with one", laws.tick(0, 0, 0), 40);
    }

    // The hand value that a loop has, set once more, shows that nothing but it is set.
    private static void theSameAgainChangesNothing(Due due) {
        Refusals refusals = new Refusals(due);
        refusals.yes("the same hand value", laws -> laws.hand(1, 20));
        refusals.yes("the hand value of a new loop", laws -> laws.hand(3, 0));
    }

    // "False, refused, when .. v is below LOW or above HIGH"
    private static void refusesValues(Due due) {
        Refusals refusals = new Refusals(due);
        for (double v : Loops.outside(-20, 80)) {
            refusals.no("hand " + v, laws -> laws.hand(1, v));
        }
        for (double v : Loops.outside(0, 100)) {
            refusals.no("hand at first " + v, laws -> laws.hand(3, v));
        }
    }

    // "False, refused, when .. its mode is not 0"
    private static void refusesModes(Due due) {
        Refusals refusals = new Refusals(due);
        double[] right = {10, 30, 50};
        for (double v : right) {
            refusals.no("hand by the law " + v, laws -> laws.hand(0, v));
            refusals.no("hand on and off " + v, laws -> laws.hand(2, v));
        }
        LoopLaws laws = Loops.many(1);
        due.yes("hand in mode 0", laws.hand(0, 1));
        laws.mode(0, 1);
        due.no("hand in mode 1", laws.hand(0, 2));
        laws.mode(0, 2);
        due.no("hand in mode 2", laws.hand(0, 3));
        laws.mode(0, 0);
        due.number("no refused hand value came in", laws.tick(0, 0, 0), 0);
        due.yes("hand in mode 0 again", laws.hand(0, 4));
    }

    // "False, refused, when there is no such loop"
    private static void refusesLoops(Due due) {
        Refusals refusals = new Refusals(due);
        for (int n : Loops.beyond(Plant.LOOPS)) {
            refusals.no("hand of loop " + n, laws -> laws.hand(n, 30));
        }
        due.yes("hand of the last loop", Plant.running().hand(Plant.LOOPS - 1, 30));
        due.no("hand of loop 16 of 16", Loops.many(16).hand(16, 30));
        due.yes("hand of loop 15 of 16", Loops.many(16).hand(15, 30));
    }
}
