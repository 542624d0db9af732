/** Promise 5: a tick, what it takes and what it refuses. */
public final class TickTest {
    public static void main(String[] args) {
        Due due = new Due();
        answersTheOutput(due);
        takesReadings(due);
        refusesReadings(due);
        refusesTargetsOfInnerLoops(due);
        refusesBeforeAFault(due);
        refusesLoops(due);
        answersThe512thCall(due);
        due.end();
    }

    // "A tick: u behind it."
    private static void answersTheOutput(Due due) {
        LoopLaws laws = Loops.echoes(2);
        due.number("u behind a tick", laws.tick(0, 10, 35), 25);
        due.number("u of the other loop", laws.tick(1, 10, 4), -6);
        due.number("u behind the next tick", laws.tick(0, 10, 34), 24);
        due.number("u behind a fault", behindFault(laws), -17);
    }

    private static double behindFault(LoopLaws laws) {
        laws.safe(0, -17);
        laws.range(0, 0, 0);
        return laws.tick(0, 1, 0);
    }

    // "measured or target are not -1,000,000 to 1,000,000": what is.
    private static void takesReadings(Due due) {
        double[] right = {-1000000, Loops.above(-1000000), -0.0, 0, Loops.below(1000000), 1000000};
        for (double v : right) {
            LoopLaws laws = Loops.echoes(1);
            due.number("both " + v, laws.tick(0, v, v), 0);
            laws.tick(0, 0, 5);
            due.number("both " + v + " behind another u", laws.tick(0, v, v), 0);
            due.number("measured alone " + v, laws.tick(0, v, 0), v > 5 ? -10000 : v < -5 ? 10000 : 0);
            laws.tick(0, 0, 0);
            due.number("target alone " + v, laws.tick(0, 0, v), v > 5 ? 10000 : v < -5 ? -10000 : 0);
        }
    }

    // "0, refused, when .. measured or target are not -1,000,000 to 1,000,000"
    private static void refusesReadings(Due due) {
        Refusals refusals = new Refusals(due);
        for (double v : Loops.outside(-1000000, 1000000)) {
            for (int loop = 0; loop < Plant.LOOPS; loop++) {
                int n = loop;
                refusals.number("measured " + v + " of loop " + n, laws -> laws.tick(n, v, 1), 0);
                refusals.number("target " + v + " of loop " + n, laws -> laws.tick(n, 1, v), 0);
                refusals.number("both " + v + " of loop " + n, laws -> laws.tick(n, v, v), 0);
            }
        }
    }

    // An inner loop asks not for its target, but the call is wrong all the same.
    private static void refusesTargetsOfInnerLoops(Due due) {
        LoopLaws laws = Loops.echoes(2);
        laws.cascade(0, 1);
        laws.tick(0, 0, 30);
        due.number("the greatest target", laws.tick(1, 5, 1000000), 25);
        due.number("just above it", laws.tick(1, 6, Loops.above(1000000)), 0);
        due.number("the least target", laws.tick(1, 7, -1000000), 23);
        due.number("just below it", laws.tick(1, 8, Loops.below(-1000000)), 0);
    }

    // A refused tick is no fault, however far outside the range its reading is.
    private static void refusesBeforeAFault(Due due) {
        LoopLaws laws = Loops.many(1);
        laws.range(0, -1000000, 0);
        laws.safe(0, 40);
        due.number("a refused reading outside the range", laws.tick(0, Loops.above(1000000), 0), 0);
        due.number("a refused target, a reading outside", laws.tick(0, 1, Loops.above(1000000)), 0);
        due.number("no fault", laws.fault(0), 0);
        due.number("the greatest reading, outside the range", laws.tick(0, 1000000, 0), 40);
        due.number("a fault", laws.fault(0), 1);
    }

    // "0, refused, when there is no such loop"
    private static void refusesLoops(Due due) {
        Refusals refusals = new Refusals(due);
        for (int n : Loops.beyond(Plant.LOOPS)) {
            refusals.number("tick of loop " + n, laws -> laws.tick(n, 1, 9), 0);
        }
        LoopLaws laws = Loops.echoes(16);
        due.number("tick of loop 16 of 16", laws.tick(16, 0, 9), 0);
        due.number("tick of loop 15 of 16", laws.tick(15, 0, 9), 9);
    }

    // "An object is used for at most 512 calls after it has been made"
    private static void answersThe512thCall(Due due) {
        LoopLaws laws = Loops.one(0, 1, 0, 1);
        laws.limits(0, -10000, 10000, 10000);
        for (int call = 4; call < 512; call++) {
            due.number("call " + call, laws.tick(0, 0, 1), call - 3);
        }
        due.number("call 512", laws.tick(0, 0, 1), 509);
    }
}
