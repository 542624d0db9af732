/** Promise 11: the band of a loop on and off. */
public final class BandTest {
    public static void main(String[] args) {
        Due due = new Due();
        setsTheBand(due);
        takesTheWidest(due);
        takesOneValue(due);
        leavesTheRest(due);
        theSameAgainChangesNothing(due);
        refusesBands(due);
        refusesLoops(due);
        due.end();
    }

    // "The band: true."
    private static void setsTheBand(Due due) {
        LoopLaws laws = Loops.one(0, 0, 0, 2);
        due.yes("a band above 0", laws.band(0, 2, 4));
        due.number("just above it", laws.tick(0, 0, Loops.above(4)), 100);
        due.number("on its high", laws.tick(0, 0, 4), 100);
        due.number("on its low", laws.tick(0, 0, 2), 100);
        due.number("just below it", laws.tick(0, 0, Loops.below(2)), 0);
        due.number("on its low again", laws.tick(0, 0, 2), 0);
        due.number("on its high again", laws.tick(0, 0, 4), 0);
        due.yes("another band", laws.band(0, 5, 6));
        due.number("below the new one", laws.tick(0, 0, 5.5), 0);
        due.number("above the new one", laws.tick(0, 0, 6.125), 100);
    }

    // "-10,000 <= low", "high <= 10,000"
    private static void takesTheWidest(Due due) {
        LoopLaws laws = Loops.one(0, 0, 0, 2);
        due.yes("the widest band", laws.band(0, -10000, 10000));
        due.number("on its high end", laws.tick(0, 0, 10000), 0);
        due.number("just above its high end", laws.tick(0, 0, Loops.above(10000)), 100);
        due.number("on its low end", laws.tick(0, 0, -10000), 100);
        due.number("just below its low end", laws.tick(0, 0, Loops.below(-10000)), 0);
        due.yes("just within", laws.band(0, Loops.above(-10000), Loops.below(10000)));
        due.number("above just within", laws.tick(0, 0, 10000), 100);
        due.number("below just within", laws.tick(0, 0, -10000), 0);
        due.yes("the greatest value", laws.band(0, 10000, 10000));
        due.yes("the least value", laws.band(0, -10000, -10000));
    }

    // "low <= high"
    private static void takesOneValue(Due due) {
        LoopLaws laws = Loops.one(0, 0, 0, 2);
        due.yes("a band of one value", laws.band(0, -3, -3));
        due.number("just above that value", laws.tick(0, 0, Loops.above(-3)), 100);
        due.number("that value", laws.tick(0, 0, -3), 100);
        due.number("just below that value", laws.tick(0, 0, Loops.below(-3)), 0);
        due.number("that value again", laws.tick(0, 0, -3), 0);
        due.yes("low just below high", laws.band(0, Loops.below(-3), -3));
        due.yes("low 0, high -0", laws.band(0, 0.0, -0.0));
        due.number("that value 0", laws.tick(0, 0, 0), 0);
        due.number("just above 0", laws.tick(0, 0, Double.MIN_VALUE), 100);
        due.number("just below 0", laws.tick(0, 0, -Double.MIN_VALUE), 0);
    }

    private static void leavesTheRest(Due due) {
        LoopLaws laws = Loops.many(2);
        laws.mode(0, 2);
        laws.mode(1, 2);
        laws.tick(0, 0, 2);
        due.yes("band", laws.band(0, 50, 60));
        due.number("the other loop's band is its own", laws.tick(1, 0, 2), 100);
        due.number("u is below the new band with the next tick", laws.tick(0, 0, 2), 0);
    }

    // The band that a loop has, set once more, shows that nothing but it is set.
    private static void theSameAgainChangesNothing(Due due) {
        Refusals refusals = new Refusals(due);
        refusals.yes("the same band by law", laws -> laws.band(0, -2, 3));
        refusals.yes("the same band by hand", laws -> laws.band(1, -4, 4));
        refusals.yes("the same band on and off", laws -> laws.band(2, -1.5, 2.5));
        refusals.yes("the band of a new loop", laws -> laws.band(3, -1, 1));
    }

    // "False, refused, when .. not -10,000 <= low <= high <= 10,000"
    private static void refusesBands(Due due) {
        Refusals refusals = new Refusals(due);
        for (double v : Loops.outside(-10000, 10000)) {
            refusals.no("low " + v, laws -> laws.band(2, v, 10000));
            refusals.no("high " + v, laws -> laws.band(2, -10000, v));
            refusals.no("both " + v, laws -> laws.band(2, v, v));
        }
        double[] values = {-10000, 0, 3, 10000};
        for (double v : values) {
            refusals.no("low just above high " + v, laws -> laws.band(2, Loops.above(v), v));
            refusals.no("high just below low " + v, laws -> laws.band(2, v, Loops.below(v)));
        }
        refusals.no("the wrong way round", laws -> laws.band(2, 10000, -10000));
        refusals.no("the wrong way round by the law", laws -> laws.band(0, 3, -3));
    }

    // "False, refused, when there is no such loop"
    private static void refusesLoops(Due due) {
        Refusals refusals = new Refusals(due);
        for (int n : Loops.beyond(Plant.LOOPS)) {
            refusals.no("band of loop " + n, laws -> laws.band(n, 7, 8));
        }
        due.yes("band of the last loop", Plant.running().band(Plant.LOOPS - 1, 7, 8));
        due.no("band of loop 16 of 16", Loops.many(16).band(16, 7, 8));
        due.yes("band of loop 15 of 16", Loops.many(16).band(15, 7, 8));
    }
}
