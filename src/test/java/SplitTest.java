/** Promise 9: splits, where they may be, and how many there are. */
public final class SplitTest {
    public static void main(String[] args) {
        Due due = new Due();
        numbersSplits(due);
        takesValuesBetween(due);
        followsTheLimits(due);
        leavesTheLoop(due);
        refusesValues(due);
        refusesLoops(due);
        fills(due);
        asksTheRestBeforeFull(due);
        fullChangesNothing(due);
        due.end();
    }

    // "A split of a loop's output at a value: its number, from 0."
    private static void numbersSplits(Due due) {
        LoopLaws laws = Loops.many(3);
        for (int k = 0; k < 16; k++) {
            due.number("no split yet " + k, laws.part(k, 0), -1);
            due.number("split " + k, laws.split(k % 3, 50), k);
            due.number("there it is " + k, laws.part(k, 0), 0);
        }
    }

    // "at is not above LOW and below HIGH": what is.
    private static void takesValuesBetween(Due due) {
        LoopLaws laws = Loops.many(2);
        due.number("just above the first LOW", laws.split(0, Double.MIN_VALUE), 0);
        due.number("just below the first HIGH", laws.split(0, Loops.below(100)), 1);
        laws.limits(1, -10000, 10000, 1);
        due.number("just above the least LOW", laws.split(1, Loops.above(-10000)), 2);
        due.number("0", laws.split(1, 0), 3);
        due.number("just below the greatest HIGH", laws.split(1, Loops.below(10000)), 4);
        laws.limits(1, 5, Loops.above(Loops.above(5)), 1);
        due.number("the only value between", laws.split(1, Loops.above(5)), 5);
        due.number("the same value again", laws.split(1, Loops.above(5)), 6);
    }

    private static void followsTheLimits(Due due) {
        LoopLaws laws = Loops.many(1);
        due.number("100 at first", laws.split(0, 100), -1);
        due.number("0 at first", laws.split(0, 0), -1);
        laws.limits(0, -1, 101, 1);
        due.number("100 under HIGH 101", laws.split(0, 100), 0);
        due.number("0 above LOW -1", laws.split(0, 0), 1);
        laws.limits(0, 40, 41, 1);
        due.number("40 at LOW 40", laws.split(0, 40), -1);
        due.number("41 at HIGH 41", laws.split(0, 41), -1);
        laws.limits(0, 5, Loops.above(5), 1);
        due.number("no value between: LOW", laws.split(0, 5), -1);
        due.number("no value between: HIGH", laws.split(0, Loops.above(5)), -1);
    }

    // A split changes nothing of its loop: it may be made before the loop's work or behind it.
    private static void leavesTheLoop(Due due) {
        new Refusals(due).alike("with splits made early", Plant::grown);
        LoopLaws laws = Loops.echoes(1);
        laws.tick(0, 0, 300);
        laws.split(0, 200);
        due.number("u is not held by a split", laws.tick(0, 0, 400), 400);
    }

    // "NONE, refused, when .. at is not above LOW and below HIGH"
    private static void refusesValues(Due due) {
        Refusals refusals = new Refusals(due);
        double[] lows = {5, -20, 10, 0};
        double[] highs = {65, 80, 50, 100};
        for (int loop = 0; loop < Plant.LOOPS; loop++) {
            int n = loop;
            double low = lows[n];
            double high = highs[n];
            refusals.number("split at LOW of " + n, laws -> laws.split(n, low), -1);
            refusals.number("split at HIGH of " + n, laws -> laws.split(n, high), -1);
            for (double at : Loops.outside(low, high)) {
                refusals.number("split of " + n + " at " + at, laws -> laws.split(n, at), -1);
            }
            due.number("just above LOW of " + n, Plant.running().split(n, Loops.above(low)), Plant.SPLITS);
            due.number("just below HIGH of " + n, Plant.running().split(n, Loops.below(high)), Plant.SPLITS);
        }
        refusals.number("split at -0, at LOW 0", laws -> laws.split(3, -0.0), -1);
    }

    // "NONE, refused, when there is no such loop"
    private static void refusesLoops(Due due) {
        Refusals refusals = new Refusals(due);
        for (int n : Loops.beyond(Plant.LOOPS)) {
            refusals.number("split of loop " + n, laws -> laws.split(n, 30), -1);
        }
        due.number("split of the last loop", Plant.running().split(Plant.LOOPS - 1, 30), Plant.SPLITS);
        due.number("split of loop 16 of 16", Loops.many(16).split(16, 30), -1);
        due.number("split of loop 15 of 16", Loops.many(16).split(15, 30), 0);
    }

    private static LoopLaws withSplits(int count) {
        LoopLaws laws = Plant.running();
        for (int k = Plant.SPLITS; k < count; k++) {
            laws.split(k % 3, 20 + k);
        }
        return laws;
    }

    // "behind that FULL when there are 16"
    private static void fills(Due due) {
        for (int loop = 0; loop < Plant.LOOPS; loop++) {
            due.number("the sixteenth split, of loop " + loop, withSplits(15).split(loop, 30), 15);
            LoopLaws laws = withSplits(16);
            due.number("the seventeenth split, of loop " + loop, laws.split(loop, 30), -2);
            due.number("the seventeenth split again", laws.split(loop, 40), -2);
            due.number("part of the sixteenth", laws.part(15, 1), 0);
            due.number("part of the seventeenth", laws.part(16, 1), -1);
        }
        LoopLaws one = Loops.many(2);
        for (int k = 0; k < 16; k++) {
            due.number("split " + k + " of one loop", one.split(0, 50), k);
        }
        due.number("the seventeenth split of one loop", one.split(0, 50), -2);
        due.number("the first split of another loop", one.split(1, 50), -2);
    }

    // "NONE .. ; behind that FULL": a wrong loop or value answers first.
    private static void asksTheRestBeforeFull(Due due) {
        LoopLaws laws = withSplits(16);
        due.number("at LOW before full", laws.split(3, 0), -1);
        due.number("just above LOW in a full object", laws.split(3, Double.MIN_VALUE), -2);
        due.number("at HIGH before full", laws.split(3, 100), -1);
        due.number("just below HIGH in a full object", laws.split(3, Loops.below(100)), -2);
        for (int n : Loops.beyond(Plant.LOOPS)) {
            due.number("loop " + n + " before full", laws.split(n, 30), -1);
        }
    }

    private static void fullChangesNothing(Due due) {
        Refusals refusals = new Refusals(due, () -> withSplits(16));
        refusals.number("the seventeenth split", laws -> laws.split(0, 30), -2);
        refusals.number("a wrong seventeenth split", laws -> laws.split(0, 65), -1);
        LoopLaws laws = Loops.echoes(1);
        laws.limits(0, 0, 100, 100);
        for (int k = 0; k < 16; k++) {
            laws.split(0, k == 15 ? 80 : 50);
        }
        laws.tick(0, 0, 40);
        laws.split(0, 10);
        for (int k = 0; k < 16; k++) {
            due.number("split " + k + " stands where it was", laws.part(k, 0), k == 15 ? 50 : 80);
        }
    }
}
