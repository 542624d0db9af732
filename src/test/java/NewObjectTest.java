/** Promise 1: a new object has no loops and no splits, and shares nothing with another. */
public final class NewObjectTest {
    private static final int[] NUMBERS = {0, 1, 15, 16, -1, -2, Integer.MAX_VALUE, Integer.MIN_VALUE};

    public static void main(String[] args) {
        Due due = new Due();
        hasNoLoops(due);
        hasNoSplits(due);
        isNoMoreEmptyBehindALoop(due);
        standsAlone(due);
        due.end();
    }

    // "No loops"
    private static void hasNoLoops(Due due) {
        for (int n : NUMBERS) {
            LoopLaws laws = new LoopLaws();
            due.no("limits of no loop " + n, laws.limits(n, 0, 100, 1));
            due.no("safe of no loop " + n, laws.safe(n, 0));
            due.number("tick of no loop " + n, laws.tick(n, 0, 10), 0);
            due.no("mode of no loop " + n, laws.mode(n, 1));
            due.no("hand of no loop " + n, laws.hand(n, 0));
            due.no("cascade of no loop " + n, laws.cascade(n, n == 0 ? 1 : 0));
            due.number("split of no loop " + n, laws.split(n, 50), -1);
            due.no("band of no loop " + n, laws.band(n, 0, 0));
            due.number("tune of no loop " + n, laws.tune(n, 10), -1);
            due.number("tuned of no loop " + n, laws.tuned(n, 0), 0);
            due.number("fault of no loop " + n, laws.fault(n), -1);
            due.no("range of no loop " + n, laws.range(n, 0, 0));
            due.number("the first loop behind all that", laws.loop(0, 0, 0), 0);
            due.yes("which begins by hand", laws.hand(0, 0));
            due.number("and without faults", laws.fault(0), 0);
        }
    }

    // "no splits"
    private static void hasNoSplits(Due due) {
        LoopLaws laws = new LoopLaws();
        for (int n : NUMBERS) {
            due.number("part of no split " + n, laws.part(n, 0), -1);
        }
        laws.loop(0, 0, 0);
        for (int n : NUMBERS) {
            due.number("part of no split beside a loop " + n, laws.part(n, 1), -1);
        }
        due.number("the first split behind all that", laws.split(0, 50), 0);
        due.number("its part", laws.part(0, 0), 0);
    }

    private static void isNoMoreEmptyBehindALoop(Due due) {
        LoopLaws laws = new LoopLaws();
        due.number("the first loop", laws.loop(0, 0, 0), 0);
        due.yes("hand", laws.hand(0, 9));
        due.number("tick", laws.tick(0, 0, 10), 9);
        due.yes("limits", laws.limits(0, 0, 100, 1));
        due.yes("safe", laws.safe(0, 0));
        due.yes("mode", laws.mode(0, 1));
        due.no("cascade needs two", laws.cascade(0, 1));
        due.number("split", laws.split(0, 50), 0);
        due.number("part", laws.part(0, 0), 18);
        due.yes("band", laws.band(0, 0, 0));
        due.number("tune", laws.tune(0, 16), 1);
        due.number("fault", laws.fault(0), 0);
        due.yes("range", laws.range(0, 0, 0));
        due.number("the second loop", laws.loop(0, 0, 0), 1);
        due.yes("cascade of two", laws.cascade(0, 1));
    }

    private static void standsAlone(Due due) {
        LoopLaws first = Loops.many(3);
        first.split(0, 50);
        LoopLaws second = new LoopLaws();
        due.number("fault in a second object", second.fault(0), -1);
        due.number("part in a second object", second.part(0, 0), -1);
        due.number("loop in a second object", second.loop(0, 0, 0), 0);
        due.number("the first object goes on", first.loop(0, 0, 0), 3);
    }
}
