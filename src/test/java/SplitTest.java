/** Promises 9 and 10: splits and their parts. */
public final class SplitTest {
    public static void main(String[] args) {
        Due due = new Due();
        splitsTheOutput(due);
        holdsParts(due);
        followsTheLimits(due);
        refusesSplits(due);
        fills(due);
        refusesParts(due);
        due.end();
    }

    private static void splitsTheOutput(Due due) {
        LoopLaws laws = Loops.one(1, 0, 0, 1);
        laws.limits(0, 20, 100, 1000);
        due.number("split at 40", laws.split(0, 40), 0);
        due.number("split at 60", laws.split(0, 60), 1);
        laws.tick(0, 0, 30);
        due.number("part 0 at 30 of 20 to 40", laws.part(0, 0), 50);
        due.number("part 1 at 30 of 40 to 100", laws.part(0, 1), 0);
        due.number("part 0 at 30 of 20 to 60", laws.part(1, 0), 25);
        laws.tick(0, 0, 70);
        due.number("part 0 at 70 of 20 to 40", laws.part(0, 0), 100);
        due.number("part 1 at 70 of 40 to 100", laws.part(0, 1), 50);
        due.number("part 1 at 70 of 60 to 100", laws.part(1, 1), 25);
        laws.tick(0, 0, 40);
        due.number("part 0 at the split", laws.part(0, 0), 100);
        due.number("part 1 at the split", laws.part(0, 1), 0);
        laws.limits(0, 20, 65, 1000);
        laws.tick(0, 0, 47);
        due.number("part 1 at 47 of 40 to 65, from the left", laws.part(0, 1), 28.000000000000004);
        laws.limits(0, 15, 65, 1000);
        laws.tick(0, 0, 22);
        due.number("part 0 at 22 of 15 to 40, from the left", laws.part(0, 0), 28.000000000000004);
    }

    private static void holdsParts(Due due) {
        LoopLaws laws = Loops.many(1);
        laws.split(0, 50);
        laws.range(0, 0, 1);
        laws.safe(0, -30);
        laws.tick(0, 2, 0);
        due.number("part 0 of a u below LOW", laws.part(0, 0), 0);
        due.number("part 1 of a u below LOW", laws.part(0, 1), 0);
        laws.safe(0, 0.25);
        laws.tick(0, 2, 0);
        due.number("part 0 a little above 0", laws.part(0, 0), 0.5);
        laws.safe(0, 50.25);
        laws.tick(0, 2, 0);
        due.number("part 0 of a u a little above the split", laws.part(0, 0), 100);
        due.number("part 1 of a u a little above the split", laws.part(0, 1), 0.5);
        laws.safe(0, 130);
        laws.tick(0, 2, 0);
        due.number("part 0 of a u above HIGH", laws.part(0, 0), 100);
        due.number("part 1 of a u above HIGH", laws.part(0, 1), 100);
    }

    private static void followsTheLimits(Due due) {
        LoopLaws laws = Loops.many(1);
        laws.split(0, 50);
        laws.hand(0, 75);
        laws.tick(0, 0, 0);
        due.number("part 1 up to the first HIGH", laws.part(0, 1), 50);
        laws.limits(0, 25, 250, 100);
        due.number("part 1 up to another HIGH", laws.part(0, 1), 12.5);
        laws.limits(0, 50, 250, 100);
        due.number("part 0, at is LOW", laws.part(0, 0), 0);
        due.number("part 1, at is LOW", laws.part(0, 1), 0);
        laws.limits(0, 0, 50, 100);
        due.number("part 0, at is HIGH", laws.part(0, 0), 0);
        due.number("part 1, at is HIGH", laws.part(0, 1), 0);
        laws.limits(0, 60, 70, 100);
        due.number("part 0, at is below LOW", laws.part(0, 0), 0);
        laws.limits(0, 30, 40, 100);
        due.number("part 0, at is above HIGH", laws.part(0, 0), 0);
        laws.limits(0, 0, 100, 100);
        due.number("part 0, at is between again", laws.part(0, 0), 100);
        due.number("part 1, at is between again", laws.part(0, 1), 50);
    }

    private static void refusesSplits(Due due) {
        LoopLaws laws = Loops.many(1);
        laws.limits(0, -10, 10, 1);
        double[] wrong = {-10, 10, -11, 11, Loops.NAN, Loops.INFINITE, -Loops.INFINITE};
        for (double at : wrong) {
            due.number("split at " + at, laws.split(0, at), -1);
        }
        due.number("split of no loop", laws.split(1, 0), -1);
        due.number("split of loop -1", laws.split(-1, 0), -1);
        due.number("split of loop 16", laws.split(16, 0), -1);
        due.number("the first split", laws.split(0, 9.875), 0);
        due.number("the second split", laws.split(0, -9.875), 1);
    }

    private static void fills(Due due) {
        LoopLaws laws = Loops.many(2);
        for (int k = 0; k < 16; k++) {
            due.number("split " + k, laws.split(k % 2, 10 + k), k);
        }
        due.number("the seventeenth split", laws.split(0, 50), -2);
        due.number("a wrong value comes before full", laws.split(0, 0), -1);
        due.number("a wrong loop comes before full", laws.split(2, 50), -1);
        laws.hand(1, 50);
        laws.tick(1, 0, 0);
        due.number("the last split is of loop 1", laws.part(15, 0), 100);
        due.number("the first is of loop 0", laws.part(0, 0), 0);
    }

    private static void refusesParts(Due due) {
        LoopLaws laws = Loops.many(1);
        laws.split(0, 50);
        due.number("part 0", laws.part(0, 0), 0);
        int[] wrong = {-1, 2, 16, Integer.MAX_VALUE, Integer.MIN_VALUE};
        for (int n : wrong) {
            due.number("part " + n, laws.part(0, n), -1);
            due.number("part of no split " + n, laws.part(n, 0), -1);
        }
        due.number("part of the next split", laws.part(1, 1), -1);
        laws.limits(0, 60, 70, 1);
        due.number("a wrong part of a split outside", laws.part(0, 2), -1);
    }
}
