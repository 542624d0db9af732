/** Terms: mode 1, the three terms with limits and windup held, and the last error of every mode. */
public final class LawTest {
    public static void main(String[] args) {
        Due due = new Due();
        addsThreeTerms(due);
        reckonsFromTheLeft(due);
        holdsTheOutput(due);
        holdsWindupAbove(due);
        holdsWindupBelow(due);
        windsOnlyOneWay(due);
        keepsSumUnderTheRate(due);
        bearsTheGreatestErrors(due);
        keepsLastErrorInEveryMode(due);
        due.end();
    }

    // "a is s + i * e; v is p * e + a + d * (e - l)"
    private static void addsThreeTerms(Due due) {
        LoopLaws laws = Loops.one(2, 0.5, 3, 1);
        laws.limits(0, -10000, 10000, 10000);
        due.number("first: 8 + 2 + 12", laws.tick(0, 6, 10), 22);
        due.number("second: 12 + 5 + 6", laws.tick(0, 4, 10), 23);
        due.number("third: -4 + 4 - 24", laws.tick(0, 12, 10), -24);
        due.number("fourth: -4 + 3 + 0", laws.tick(0, 12, 10), -1);
    }

    // "reckoned as it is written, from the left to the right": any other order of the sums gives
    // other last digits here.
    private static void reckonsFromTheLeft(Due due) {
        LoopLaws laws = Loops.one(0.5, 0.2, 2.3, 1);
        due.number("first", laws.tick(0, 0.4, 8.2), 23.4);
        due.number("second", laws.tick(0, 1.8, 8.2), 2.8200000000000007);
    }

    // "w is LOW when v is below it, HIGH when v is above it, else v"
    private static void holdsTheOutput(Due due) {
        LoopLaws laws = Loops.one(1, 0, 0, 1);
        laws.limits(0, -10, 10, 100);
        due.number("just below HIGH", laws.tick(0, 0, Loops.below(10)), Loops.below(10));
        due.number("HIGH", laws.tick(0, 0, 10), 10);
        due.number("just above HIGH", laws.tick(0, 0, Loops.above(10)), 10);
        due.number("just above LOW", laws.tick(0, 0, Loops.above(-10)), Loops.above(-10));
        due.number("LOW", laws.tick(0, 0, -10), -10);
        due.number("just below LOW", laws.tick(0, 0, Loops.below(-10)), -10);
    }

    // What a tick without error puts out is the sum alone: p and d add nothing.
    private static double sumBehind(LoopLaws laws) {
        laws.limits(0, -10000, 10000, 10000);
        return laws.tick(0, 0, 0);
    }

    // "s becomes a, but not when v is above HIGH and e above 0"
    private static void holdsWindupAbove(Due due) {
        double[] highs = {Loops.above(10), 10, Loops.below(10)};
        double[] sums = {5, 5, 0};
        for (int k = 0; k < highs.length; k++) {
            LoopLaws laws = Loops.one(1, 1, 0, 1);
            laws.limits(0, 0, highs[k], 100);
            due.number("5 + 5 under HIGH " + highs[k], laws.tick(0, 0, 5), k == 2 ? highs[2] : 10);
            due.number("the sum under HIGH " + highs[k], sumBehind(laws), sums[k]);
        }
        double[] errors = {-0.125, -Double.MIN_VALUE, 0, Double.MIN_VALUE, 0.125};
        for (double e : errors) {
            LoopLaws laws = Loops.one(1, 1, 0, 1);
            laws.limits(0, -10, -3, 100);
            due.number("v above HIGH with e " + e, laws.tick(0, 0, e), -3);
            due.number("the sum behind e " + e, sumBehind(laws), e < 0 ? e : 0);
        }
    }

    // "or v below LOW and e below 0"
    private static void holdsWindupBelow(Due due) {
        double[] lows = {Loops.below(-10), -10, Loops.above(-10)};
        double[] sums = {-5, -5, 0};
        for (int k = 0; k < lows.length; k++) {
            LoopLaws laws = Loops.one(1, 1, 0, 1);
            laws.limits(0, lows[k], 0, 100);
            due.number("-5 - 5 over LOW " + lows[k], laws.tick(0, 5, 0), k == 2 ? lows[2] : -10);
            due.number("the sum over LOW " + lows[k], sumBehind(laws), sums[k]);
        }
        double[] errors = {-0.125, -Double.MIN_VALUE, 0, Double.MIN_VALUE, 0.125};
        for (double e : errors) {
            LoopLaws laws = Loops.one(1, 1, 0, 1);
            laws.limits(0, 3, 10, 100);
            due.number("v below LOW with e " + e, laws.tick(0, 0, e), 3);
            due.number("the sum behind e " + e, sumBehind(laws), e > 0 ? e : 0);
        }
    }

    // A wrong sign of e or a wrong limit holds no windup: here v and e pull different ways.
    private static void windsOnlyOneWay(Due due) {
        LoopLaws laws = Loops.one(0, 1, 1, 1);
        laws.limits(0, -10, 10, 100);
        due.number("e -40: held at LOW", laws.tick(0, 40, 0), -10);
        due.number("e -2, v 36: -2 is summed at HIGH", laws.tick(0, 2, 0), 10);
        due.number("e 30, v 60: held at HIGH", laws.tick(0, 0, 30), 10);
        due.number("e 3, v -26: 3 is summed at LOW", laws.tick(0, 0, 3), -10);
        due.number("the sum, and the way back of e", laws.tick(0, 0, 0), -2);
        due.number("the sum is 1", laws.tick(0, 0, 0), 1);
    }

    private static void keepsSumUnderTheRate(Due due) {
        LoopLaws laws = Loops.one(0, 1, 0, 1);
        laws.limits(0, 0, 100, 1);
        due.number("the rate holds u, not the sum", laws.tick(0, 0, 20), 1);
        due.number("on towards 20", laws.tick(0, 0, 0), 2);
        due.number("the sum is 20", sumBehind(laws), 20);
    }

    private static void bearsTheGreatestErrors(Due due) {
        LoopLaws laws = Loops.one(1000, 1000, 1000, 1);
        laws.limits(0, -10000, 10000, 10000);
        due.number("the greatest error", laws.tick(0, -1000000, 1000000), 10000);
        due.number("the least error", laws.tick(0, 1000000, -1000000), 0);
        due.number("on to LOW", laws.tick(0, 1000000, -1000000), -10000);
        due.number("the way back of e, by the rate", laws.tick(0, 0, 0), 0);
        due.number("nothing was summed", laws.tick(0, 0, 0), 0);
    }

    // "Then l becomes e."
    private static void keepsLastErrorInEveryMode(Due due) {
        for (int mode = 0; mode < 3; mode++) {
            LoopLaws laws = Loops.one(0, 0, 1, mode);
            laws.limits(0, -10000, 10000, 10000);
            laws.band(0, -10000, 10000);
            double u = laws.tick(0, 0, 8);
            due.number("u in mode " + mode, u, mode == 1 ? 8 : 0);
            laws.mode(0, 1);
            due.number("the last error of mode " + mode + " counts", laws.tick(0, 0, 10), 2);
        }
    }
}
