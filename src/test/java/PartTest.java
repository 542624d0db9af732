/** Promise 10: the two parts of a split. */
public final class PartTest {
    private static final double NO_NUMBER = -1;

    public static void main(String[] args) {
        Due due = new Due();
        splitsTheOutput(due);
        reckonsFromTheLeft(due);
        isNotBelowZero(due);
        isNotAboveHundred(due);
        meetsAtTheSplit(due);
        isZeroWhenLowReachesTheSplit(due);
        isZeroWhenHighReachesTheSplit(due);
        bearsTheNarrowestSplits(due);
        refusesParts(due);
        refusesSplits(due);
        answersAlikeTwice(due);
        due.end();
    }

    // "Part 0 of a split: (u - LOW) / (at - LOW) * 100; part 1: (u - at) / (HIGH - at) * 100"
    private static void splitsTheOutput(Due due) {
        LoopLaws laws = Loops.one(1, 0, 0, 1);
        laws.limits(0, 20, 100, 1000);
        laws.split(0, 40);
        laws.split(0, 60);
        laws.tick(0, 0, 30);
        due.number("part 0 at 30 of 20 to 40", laws.part(0, 0), 50);
        due.number("part 1 at 30 of 40 to 100", laws.part(0, 1), 0);
        due.number("part 0 at 30 of 20 to 60", laws.part(1, 0), 25);
        laws.tick(0, 0, 70);
        due.number("part 0 at 70 of 20 to 40", laws.part(0, 0), 100);
        due.number("part 1 at 70 of 40 to 100", laws.part(0, 1), 50);
        due.number("part 1 at 70 of 60 to 100", laws.part(1, 1), 25);
        laws.limits(0, 20, 140, 1000);
        due.number("part 1 at 70 of 40 to another HIGH", laws.part(0, 1), 30);
        laws.tick(0, 0, 30);
        laws.limits(0, 0, 140, 1000);
        due.number("part 0 at 30 of another LOW to 40", laws.part(0, 0), 75);
    }

    private static void reckonsFromTheLeft(Due due) {
        LoopLaws laws = Loops.one(1, 0, 0, 1);
        laws.limits(0, 20, 65, 1000);
        laws.split(0, 40);
        laws.tick(0, 0, 47);
        due.number("part 1 at 47 of 40 to 65", laws.part(0, 1), 28.000000000000004);
        laws.limits(0, 15, 65, 1000);
        laws.tick(0, 0, 22);
        due.number("part 0 at 22 of 15 to 40", laws.part(0, 0), 28.000000000000004);
    }

    /** One loop with limits 0 to 100, split at 50, whose u is any value. */
    private static LoopLaws at(double u) {
        LoopLaws laws = Loops.many(1);
        laws.split(0, 50);
        Loops.force(laws, 0, u);
        return laws;
    }

    // "0 when that is below 0"
    private static void isNotBelowZero(Due due) {
        due.number("part 0, u far below LOW", at(-10000).part(0, 0), 0);
        due.number("part 0, u just below LOW", at(-0.25).part(0, 0), 0);
        due.number("part 0, u at LOW", at(0).part(0, 0), 0);
        due.number("part 0, u just above LOW", at(0.25).part(0, 0), 0.5);
        due.number("part 1, u below LOW", at(-10000).part(0, 1), 0);
        due.number("part 1, u below the split", at(49.75).part(0, 1), 0);
        due.number("part 1, u at the split", at(50).part(0, 1), 0);
        due.number("part 1, u just above the split", at(50.25).part(0, 1), 0.5);
    }

    // "100 when it is above 100"
    private static void isNotAboveHundred(Due due) {
        due.number("part 0, u just below the split", at(49.75).part(0, 0), 99.5);
        due.number("part 0, u at the split", at(50).part(0, 0), 100);
        due.number("part 0, u just above the split", at(50.25).part(0, 0), 100);
        due.number("part 0, u above HIGH", at(10000).part(0, 0), 100);
        due.number("part 1, u just below HIGH", at(99.75).part(0, 1), 99.5);
        due.number("part 1, u at HIGH", at(100).part(0, 1), 100);
        due.number("part 1, u just above HIGH", at(100.25).part(0, 1), 100);
        due.number("part 1, u far above HIGH", at(10000).part(0, 1), 100);
    }

    private static void meetsAtTheSplit(Due due) {
        double below = Loops.below(50);
        double above = Loops.above(50);
        due.number("part 0 just below the split", at(below).part(0, 0), below / 50 * 100);
        due.number("part 1 just below the split", at(below).part(0, 1), 0);
        due.number("part 0 just above the split", at(above).part(0, 0), 100);
        due.number("part 1 just above the split", at(above).part(0, 1), (above - 50) / 50 * 100);
    }

    private static LoopLaws between(double low, double high, double u) {
        LoopLaws laws = at(u);
        laws.limits(0, low, high, 1);
        return laws;
    }

    // "0 when at is not above LOW .. any more"
    private static void isZeroWhenLowReachesTheSplit(Due due) {
        double[] lows = {50, Loops.above(50), 70};
        for (double low : lows) {
            due.number("part 0 with LOW " + low, between(low, 100, 75).part(0, 0), 0);
            due.number("part 1 with LOW " + low, between(low, 100, 75).part(0, 1), 0);
        }
        double below = Loops.below(50);
        due.number("part 0 with LOW just below", between(below, 100, 75).part(0, 0), 100);
        due.number("part 1 with LOW just below", between(below, 100, 75).part(0, 1), 50);
        LoopLaws laws = between(50, 100, 75);
        laws.limits(0, 0, 100, 1);
        due.number("part 1 with LOW away again", laws.part(0, 1), 50);
    }

    // "0 when at is not .. below HIGH any more"
    private static void isZeroWhenHighReachesTheSplit(Due due) {
        double[] highs = {50, Loops.below(50), 30};
        for (double high : highs) {
            due.number("part 0 with HIGH " + high, between(0, high, 75).part(0, 0), 0);
            due.number("part 1 with HIGH " + high, between(0, high, 75).part(0, 1), 0);
            due.number("part 0 with HIGH " + high + ", u 25", between(0, high, 25).part(0, 0), 0);
        }
        double above = Loops.above(50);
        due.number("part 0 with HIGH just above", between(0, above, 25).part(0, 0), 50);
        due.number("part 1 with HIGH just above", between(0, above, 75).part(0, 1), 100);
        LoopLaws laws = between(0, 50, 25);
        laws.limits(0, 0, 100, 1);
        due.number("part 0 with HIGH away again", laws.part(0, 0), 50);
    }

    // Differences as small as doubles have them divide what is far greater.
    private static void bearsTheNarrowestSplits(Due due) {
        LoopLaws laws = Loops.many(1);
        laws.limits(0, 0, 2 * Double.MIN_VALUE, 1);
        laws.split(0, Double.MIN_VALUE);
        double[] outputs = {-10000, 0, Double.MIN_VALUE, 2 * Double.MIN_VALUE, 10000};
        double[] first = {0, 0, 100, 100, 100};
        double[] second = {0, 0, 0, 100, 100};
        for (int k = 0; k < outputs.length; k++) {
            Loops.force(laws, 0, outputs[k]);
            due.number("part 0 of u " + outputs[k], laws.part(0, 0), first[k]);
            due.number("part 1 of u " + outputs[k], laws.part(0, 1), second[k]);
        }
    }

    // "-1 when there is no such .. part"
    private static void refusesParts(Due due) {
        Refusals refusals = new Refusals(due);
        int[] wrong = {-1, 2, 3, 16, Integer.MAX_VALUE, Integer.MIN_VALUE};
        for (int n : wrong) {
            refusals.number("part " + n, laws -> laws.part(0, n), NO_NUMBER);
            due.number("part " + n + " of a split outside", between(60, 70, 0).part(0, n), NO_NUMBER);
        }
        due.number("part 0 of a split outside", between(60, 70, 0).part(0, 0), 0);
        due.number("part 1 of a split outside", between(60, 70, 0).part(0, 1), 0);
    }

    // "-1 when there is no such split"
    private static void refusesSplits(Due due) {
        Refusals refusals = new Refusals(due);
        for (int n : Loops.beyond(Plant.SPLITS)) {
            refusals.number("part 0 of split " + n, laws -> laws.part(n, 0), NO_NUMBER);
            refusals.number("part 1 of split " + n, laws -> laws.part(n, 1), NO_NUMBER);
        }
        LoopLaws laws = Loops.many(1);
        for (int k = 0; k < 16; k++) {
            laws.split(0, 50);
        }
        due.number("part of split 15 of 16", laws.part(15, 0), 0);
        due.number("part of split 16 of 16", laws.part(16, 0), NO_NUMBER);
    }

    private static void answersAlikeTwice(Due due) {
        Refusals refusals = new Refusals(due);
        double part = Plant.running().part(0, 0);
        refusals.number("a part changes nothing", laws -> laws.part(0, 0), part);
    }
}
