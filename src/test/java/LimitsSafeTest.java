/** Promises 3 and 4: limits with the rate, and the safe value. */
public final class LimitsSafeTest {
    private static final double[] NO_VALUES = {
        -10000.125, 10000.125, Loops.NAN, Loops.INFINITE, -Loops.INFINITE};

    public static void main(String[] args) {
        Due due = new Due();
        holdsLimits(due);
        holdsRate(due);
        refusesLimits(due);
        refusedLimitsChangeNothing(due);
        takesSafeValue(due);
        refusesSafeValue(due);
        due.end();
    }

    private static void holdsLimits(Due due) {
        LoopLaws laws = Loops.one(1, 0, 0, 1);
        due.number("tick up to the first HIGH", laws.tick(0, 0, 150), 100);
        due.yes("limits", laws.limits(0, 10, 20, 1000));
        due.number("u stays when limits change", outputOf(laws), 100);
        due.number("tick to HIGH", laws.tick(0, 0, 150), 20);
        due.number("tick to LOW", laws.tick(0, 150, 0), 10);
        due.number("tick between", laws.tick(0, 0, 12.5), 12.5);
        due.yes("limits below 0", laws.limits(0, -20, -10, 1000));
        due.number("tick to a LOW below 0", laws.tick(0, 50, 0), -20);
        due.number("tick to a HIGH below 0", laws.tick(0, 0, 50), -10);
    }

    // No call tells u without a tick, but the inner loop of a cascade has it as its target.
    private static double outputOf(LoopLaws laws) {
        int inner = laws.loop(1, 0, 0);
        laws.limits(inner, -10000, 10000, 10000);
        laws.mode(inner, 1);
        laws.cascade(0, inner);
        return laws.tick(inner, 0, 0);
    }

    private static void holdsRate(Due due) {
        LoopLaws laws = Loops.one(1, 0, 0, 1);
        due.yes("limits with a rate", laws.limits(0, 0, 100, 2.5));
        due.number("up by the rate", laws.tick(0, 0, 10), 2.5);
        due.number("up by the rate again", laws.tick(0, 0, 10), 5);
        due.number("up by just the rate", laws.tick(0, 0, 7.5), 7.5);
        due.number("up by less", laws.tick(0, 0, 8), 8);
        due.number("down by the rate", laws.tick(0, 10, 0), 5.5);
        due.number("down by just the rate", laws.tick(0, 0, 3), 3);
        due.yes("limits far above u", laws.limits(0, 50, 60, 4));
        due.number("towards the new LOW by the rate", laws.tick(0, 0, 0), 7);
    }

    private static void refusesLimits(Due due) {
        LoopLaws laws = Loops.many(1);
        due.yes("the widest limits", laws.limits(0, -10000, 10000, 10000));
        due.yes("the least rate", laws.limits(0, 0, 1, Double.MIN_VALUE));
        due.no("limits that are one", laws.limits(0, 5, 5, 1));
        due.no("limits the wrong way round", laws.limits(0, 6, 5, 1));
        due.no("rate 0", laws.limits(0, 0, 1, 0));
        due.no("rate below 0", laws.limits(0, 0, 1, -1));
        due.no("limits of no loop", laws.limits(1, 0, 1, 1));
        due.no("limits of loop -1", laws.limits(-1, 0, 1, 1));
        for (double v : NO_VALUES) {
            due.no("LOW " + v, laws.limits(0, v, 10000, 1));
            due.no("HIGH " + v, laws.limits(0, -10000, v, 1));
            due.no("rate " + v, laws.limits(0, 0, 1, v));
        }
    }

    private static void refusedLimitsChangeNothing(Due due) {
        LoopLaws laws = Loops.one(1, 0, 0, 1);
        laws.limits(0, 10, 20, 30);
        laws.limits(0, 0, 100, 0);
        laws.limits(0, 0, 20000, 40);
        laws.limits(0, 50, 40, 40);
        due.number("HIGH after refused limits", laws.tick(0, 0, 50), 20);
        due.number("LOW after refused limits", laws.tick(0, 50, 0), 10);
        laws.range(0, 0, 50);
        laws.safe(0, 100);
        laws.tick(0, 60, 0);
        due.number("rate after refused limits", laws.tick(0, 0, 0), 70);
    }

    private static void takesSafeValue(Due due) {
        LoopLaws laws = Loops.one(1, 0, 0, 1);
        laws.limits(0, 0, 100, 1);
        laws.range(0, 0, 10);
        due.yes("safe outside limits and rate", laws.safe(0, 10000));
        due.number("a fault goes to it at once", laws.tick(0, 11, 0), 10000);
        due.yes("the least safe", laws.safe(0, -10000));
        due.number("a fault goes to the least", laws.tick(0, -1, 0), -10000);
        due.yes("safe again", laws.safe(0, 7.5));
        due.number("a fault goes to the new one", laws.tick(0, -1, 0), 7.5);
        due.number("from it by the rate", laws.tick(0, 0, 10), 8.5);
    }

    private static void refusesSafeValue(Due due) {
        LoopLaws laws = Loops.many(1);
        laws.range(0, 0, 0);
        due.yes("safe", laws.safe(0, 3));
        for (double v : NO_VALUES) {
            due.no("safe " + v, laws.safe(0, v));
        }
        due.no("safe of no loop", laws.safe(1, 0));
        due.no("safe of loop -1", laws.safe(-1, 0));
        due.number("a refused safe value changes nothing", laws.tick(0, 1, 0), 3);
    }
}
