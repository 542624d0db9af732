/** Promise 5: ticks by hand, by the law and on and off. */
public final class TickTest {
    private static final double[] NO_READINGS = {
        -1000000.125, 1000000.125, Loops.NAN, Loops.INFINITE, -Loops.INFINITE};

    public static void main(String[] args) {
        Due due = new Due();
        movesByHand(due);
        addsThreeTerms(due);
        reckonsFromTheLeft(due);
        holdsWindupAbove(due);
        holdsWindupBelow(due);
        keepsSumAtTheLimits(due);
        switchesOnAndOff(due);
        keepsLastErrorInEveryMode(due);
        refusesReadings(due);
        due.end();
    }

    private static void movesByHand(Due due) {
        LoopLaws laws = Loops.many(1);
        laws.limits(0, 0, 100, 4);
        laws.hand(0, 10);
        due.number("by hand, up by the rate", laws.tick(0, 500, -500), 4);
        due.number("by hand, up again", laws.tick(0, 0, 0), 8);
        due.number("by hand, there", laws.tick(0, 0, 0), 10);
        due.number("by hand, stays", laws.tick(0, 0, 0), 10);
        laws.hand(0, 3);
        due.number("by hand, down by the rate", laws.tick(0, 0, 0), 6);
        due.number("by hand, down, there", laws.tick(0, 0, 0), 3);
        laws.limits(0, 50, 100, 4);
        due.number("by hand no limit holds u", laws.tick(0, 0, 0), 3);
    }

    private static void addsThreeTerms(Due due) {
        LoopLaws laws = Loops.one(2, 0.5, 3, 1);
        laws.limits(0, -10000, 10000, 10000);
        due.number("first: 8 + 2 + 12", laws.tick(0, 6, 10), 22);
        due.number("second: 12 + 5 + 6", laws.tick(0, 4, 10), 23);
        due.number("third: -4 + 4 - 24", laws.tick(0, 12, 10), -24);
        due.number("fourth: -4 + 3 + 0", laws.tick(0, 12, 10), -1);
        due.number("the greatest error, held by HIGH and the rate", laws.tick(0, -1000000, 1000000), 9999);
    }

    // Any other order of the sums gives other last digits here.
    private static void reckonsFromTheLeft(Due due) {
        LoopLaws laws = Loops.one(0.5, 0.2, 2.3, 1);
        due.number("first", laws.tick(0, 0.4, 8.2), 23.4);
        due.number("second", laws.tick(0, 1.8, 8.2), 2.8200000000000007);
    }

    private static void holdsWindupAbove(Due due) {
        LoopLaws laws = Loops.one(1, 1, 0, 1);
        laws.limits(0, 0, 10, 100);
        due.number("v just HIGH: the sum grows to 5", laws.tick(0, 0, 5), 10);
        due.number("v above HIGH, e above 0: held", laws.tick(0, 0, 20), 10);
        due.number("the sum was still 5", laws.tick(0, 0, 0), 5);
        laws.limits(0, 0, 3, 100);
        due.number("v above HIGH, e below 0: sum 4", laws.tick(0, 1, 0), 3);
        due.number("v above HIGH, e 0: sum 4", laws.tick(0, 0, 0), 3);
        due.number("v above HIGH, e a little above 0: held", laws.tick(0, 0, 0.125), 3);
        due.number("v above HIGH, e a little below 0: sum 3.875", laws.tick(0, 0.125, 0), 3);
        laws.limits(0, 0, 10, 100);
        due.number("the sum is 3.875", laws.tick(0, 0, 0), 3.875);
    }

    private static void holdsWindupBelow(Due due) {
        LoopLaws laws = Loops.one(1, 1, 0, 1);
        laws.limits(0, -10, 0, 100);
        due.number("v just LOW: the sum falls to -5", laws.tick(0, 5, 0), -10);
        due.number("v below LOW, e below 0: held", laws.tick(0, 20, 0), -10);
        due.number("the sum was still -5", laws.tick(0, 0, 0), -5);
        laws.limits(0, -3, 0, 100);
        due.number("v below LOW, e above 0: sum -4", laws.tick(0, 0, 1), -3);
        due.number("v below LOW, e a little below 0: held", laws.tick(0, 0.125, 0), -3);
        due.number("v below LOW, e a little above 0: sum -3.875", laws.tick(0, 0, 0.125), -3);
        laws.limits(0, -10, 0, 100);
        due.number("the sum is -3.875", laws.tick(0, 0, 0), -3.875);
    }

    private static void keepsSumAtTheLimits(Due due) {
        LoopLaws laws = Loops.one(0, 1, 0, 1);
        laws.limits(0, 0, 100, 1);
        due.number("the rate holds u, not the sum", laws.tick(0, 0, 20), 1);
        due.number("on towards 20", laws.tick(0, 0, 0), 2);
        laws.limits(0, 0, 100, 100);
        due.number("at 20", laws.tick(0, 0, 0), 20);
    }

    private static void switchesOnAndOff(Due due) {
        LoopLaws laws = Loops.one(5, 5, 5, 2);
        laws.limits(0, 10, 50, 30);
        laws.band(0, -2, 3);
        due.number("on, by the rate", laws.tick(0, 0, 3.125), 30);
        due.number("on the band's high: stays", laws.tick(0, 0, 3), 30);
        due.number("on the band's low: stays", laws.tick(0, 2, 0), 30);
        due.number("on, at HIGH", laws.tick(0, 0, 4), 50);
        due.number("off, by the rate", laws.tick(0, 2.125, 0), 20);
        due.number("off, at LOW", laws.tick(0, 3, 0), 10);
        due.number("within: stays at LOW", laws.tick(0, 0, 0), 10);
    }

    private static void keepsLastErrorInEveryMode(Due due) {
        for (int mode = 0; mode < 3; mode++) {
            LoopLaws laws = Loops.one(0, 0, 1, mode);
            laws.limits(0, -10000, 10000, 10000);
            laws.band(0, -10000, 10000);
            double u = laws.tick(0, 0, 8);
            due.number("u in mode " + mode, u, mode == 1 ? 8 : 0);
            laws.mode(0, 1);
            due.number("the last error of mode " + mode + " counts", laws.tick(0, 0, 10), 2);
        }
    }

    private static void refusesReadings(Due due) {
        LoopLaws laws = Loops.one(0, 0, 1, 1);
        due.number("tick", laws.tick(0, 0, 8), 8);
        for (double v : NO_READINGS) {
            due.number("measured " + v, laws.tick(0, v, 1), 0);
            due.number("target " + v, laws.tick(0, 1, v), 0);
        }
        due.number("no loop", laws.tick(1, 0, 20), 0);
        due.number("loop -1", laws.tick(-1, 0, 20), 0);
        due.number("the last error is still 8", laws.tick(0, 0, 20), 12);
        due.number("no fault was counted", laws.fault(0), 0);
        due.number("the least readings", laws.tick(0, -1000000, -1000000), 0);
        due.number("the greatest readings", laws.tick(0, 1000000, 1000000), 0);
    }
}
