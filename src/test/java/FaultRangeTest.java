/** Promises 14 and 15: the range of a sensor and the faults outside it. */
public final class FaultRangeTest {
    public static void main(String[] args) {
        Due due = new Due();
        countsFaults(due);
        changesNothingElse(due);
        faultsInEveryMode(due);
        hasNoRangeAtFirst(due);
        refusesRanges(due);
        refusesFaults(due);
        due.end();
    }

    private static void countsFaults(Due due) {
        LoopLaws laws = Loops.many(2);
        due.number("no fault yet", laws.fault(0), 0);
        due.yes("range", laws.range(0, -5, 30));
        laws.hand(0, 40);
        due.number("on its low", laws.tick(0, -5, 0), 40);
        due.number("on its high", laws.tick(0, 30, 0), 40);
        due.number("still no fault", laws.fault(0), 0);
        due.number("below it", laws.tick(0, -5.125, 0), 0);
        due.number("one fault", laws.fault(0), 1);
        due.number("above it", laws.tick(0, 30.125, 0), 0);
        due.number("two faults", laws.fault(0), 2);
        due.number("a refused tick", laws.tick(0, 1000001, 0), 0);
        due.number("still two faults", laws.fault(0), 2);
        due.number("back to the hand value", laws.tick(0, 0, 0), 40);
        due.number("the other loop has none", laws.fault(1), 0);
        due.yes("a range of one value", laws.range(0, 7, 7));
        due.number("that value", laws.tick(0, 7, 0), 40);
        due.number("another value", laws.tick(0, 8, 0), 0);
        due.number("three faults", laws.fault(0), 3);
    }

    private static void changesNothingElse(Due due) {
        LoopLaws laws = Loops.one(1, 1, 1, 1);
        laws.limits(0, -100, 100, 1000);
        laws.range(0, 0, 50);
        laws.safe(0, 5);
        due.number("10 + 10 + 10", laws.tick(0, 10, 20), 30);
        due.number("a fault", laws.tick(0, 60, 20), 5);
        due.number("sum and last error stayed: 10 + 20 + 0", laws.tick(0, 10, 20), 30);
    }

    private static void faultsInEveryMode(Due due) {
        for (int mode = 0; mode < 3; mode++) {
            LoopLaws laws = Loops.one(1, 0, 0, mode);
            laws.range(0, 0, 10);
            laws.safe(0, 70);
            due.number("a fault in mode " + mode, laws.tick(0, 11, 500), 70);
            due.number("counted in mode " + mode, laws.fault(0), 1);
        }
    }

    private static void hasNoRangeAtFirst(Due due) {
        LoopLaws laws = Loops.one(1, 0, 0, 1);
        laws.safe(0, 70);
        due.number("the least reading", laws.tick(0, -1000000, 0), 100);
        due.number("the greatest reading", laws.tick(0, 1000000, 0), 0);
        due.number("no fault without a range", laws.fault(0), 0);
    }

    private static void refusesRanges(Due due) {
        LoopLaws laws = Loops.one(1, 0, 0, 1);
        due.yes("the widest range", laws.range(0, -1000000, 1000000));
        due.yes("range", laws.range(0, 10, 20));
        double[] wrong = {-1000000.125, 1000000.125, Loops.NAN, Loops.INFINITE, -Loops.INFINITE};
        for (double v : wrong) {
            due.no("low " + v, laws.range(0, v, 1000000));
            due.no("high " + v, laws.range(0, -1000000, v));
        }
        due.no("the wrong way round", laws.range(0, 3, 2));
        due.no("range of no loop", laws.range(1, 2, 3));
        due.no("range of loop -1", laws.range(-1, 2, 3));
        laws.tick(0, 9.875, 0);
        laws.tick(0, 20.125, 0);
        due.number("the range stayed: two faults", laws.fault(0), 2);
        laws.tick(0, 10, 0);
        laws.tick(0, 20, 0);
        due.number("the range stayed: no more", laws.fault(0), 2);
    }

    private static void refusesFaults(Due due) {
        LoopLaws laws = Loops.many(1);
        int[] wrong = {1, -1, 15, 16, Integer.MAX_VALUE, Integer.MIN_VALUE};
        for (int n : wrong) {
            due.number("fault of no loop " + n, laws.fault(n), -1);
        }
    }
}
