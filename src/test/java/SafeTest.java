/** Promise 4: the safe value of a loop. */
public final class SafeTest {
    public static void main(String[] args) {
        Due due = new Due();
        takesSafeValues(due);
        isReachedAtOnce(due);
        leavesTheOutput(due);
        theSameAgainChangesNothing(due);
        refusesSafeValues(due);
        refusesLoops(due);
        due.end();
    }

    // "v is not -10,000 to 10,000": what is.
    private static void takesSafeValues(Due due) {
        double[] right = {-10000, Loops.above(-10000), -0.0, 0, 7.5, Loops.below(10000), 10000};
        LoopLaws laws = Loops.many(1);
        laws.range(0, 0, 0);
        for (double v : right) {
            due.yes("safe " + v, laws.safe(0, v));
            due.number("a fault goes to " + v, laws.tick(0, 1, 0), v);
        }
    }

    private static void isReachedAtOnce(Due due) {
        LoopLaws laws = Loops.one(1, 0, 0, 1);
        laws.limits(0, 0, 100, 1);
        laws.range(0, 0, 10);
        due.yes("safe outside limits and rate", laws.safe(0, 10000));
        due.number("a fault goes to it at once", laws.tick(0, 11, 0), 10000);
        due.number("from it by the rate", laws.tick(0, 0, 10), 9999);
    }

    private static void leavesTheOutput(Due due) {
        LoopLaws laws = Loops.echoes(2);
        laws.cascade(0, 1);
        laws.tick(0, 0, 40);
        due.yes("safe", laws.safe(0, 7));
        due.number("u stays", laws.tick(1, 0, 0), 40);
        due.number("the other loop's safe value is its own", faultOf(laws, 1), 0);
    }

    private static double faultOf(LoopLaws laws, int loop) {
        laws.range(loop, 0, 0);
        return laws.tick(loop, 1, 0);
    }

    // The safe value that a loop has, set once more, shows that nothing but it is set.
    private static void theSameAgainChangesNothing(Due due) {
        Refusals refusals = new Refusals(due);
        refusals.yes("the same safe value by law", laws -> laws.safe(0, 33));
        refusals.yes("the same safe value by hand", laws -> laws.safe(1, -6));
        refusals.yes("the same safe value on and off", laws -> laws.safe(2, 23));
        refusals.yes("the safe value of a new loop", laws -> laws.safe(3, 0));
    }

    // "False, refused, when .. v is not -10,000 to 10,000"
    private static void refusesSafeValues(Due due) {
        Refusals refusals = new Refusals(due);
        for (double v : Loops.outside(-10000, 10000)) {
            for (int loop = 0; loop < Plant.LOOPS; loop++) {
                int n = loop;
                refusals.no("safe of loop " + n + ", " + v, laws -> laws.safe(n, v));
            }
        }
    }

    // "False, refused, when there is no such loop"
    private static void refusesLoops(Due due) {
        Refusals refusals = new Refusals(due);
        for (int n : Loops.beyond(Plant.LOOPS)) {
            refusals.no("safe of loop " + n, laws -> laws.safe(n, 1));
        }
        due.yes("safe of the last loop", Plant.running().safe(Plant.LOOPS - 1, 1));
        due.no("safe of loop 16 of 16", Loops.many(16).safe(16, 1));
        due.yes("safe of loop 15 of 16", Loops.many(16).safe(15, 1));
    }
}
