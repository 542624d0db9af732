/** Promise 11: the band of a loop on and off. */
public final class BandTest {
    public static void main(String[] args) {
        Due due = new Due();
        setsTheBand(due);
        refusesBands(due);
        due.end();
    }

    private static void setsTheBand(Due due) {
        LoopLaws laws = Loops.one(0, 0, 0, 2);
        due.yes("a band above 0", laws.band(0, 2, 4));
        due.number("above it", laws.tick(0, 0, 4.125), 100);
        due.number("on its high", laws.tick(0, 0, 4), 100);
        due.number("on its low", laws.tick(0, 0, 2), 100);
        due.number("below it", laws.tick(0, 0, 1.875), 0);
        due.yes("a band of one value", laws.band(0, -3, -3));
        due.number("above that value", laws.tick(0, 2.875, 0), 100);
        due.number("on that value", laws.tick(0, 3, 0), 100);
        due.number("below that value", laws.tick(0, 3.125, 0), 0);
        due.yes("the widest band", laws.band(0, -10000, 10000));
        due.number("on its high end", laws.tick(0, 0, 10000), 0);
        due.number("above its high end", laws.tick(0, 0, 10000.125), 100);
        due.number("on its low end", laws.tick(0, 10000, 0), 100);
        due.number("below its low end", laws.tick(0, 10000.125, 0), 0);
    }

    private static void refusesBands(Due due) {
        LoopLaws laws = Loops.one(0, 0, 0, 2);
        double[] wrong = {-10000.125, 10000.125, Loops.NAN, Loops.INFINITE, -Loops.INFINITE};
        for (double v : wrong) {
            due.no("low " + v, laws.band(0, v, 10000));
            due.no("high " + v, laws.band(0, -10000, v));
        }
        due.no("the wrong way round", laws.band(0, 3, 2));
        due.no("band of no loop", laws.band(1, 2, 3));
        due.no("band of loop -1", laws.band(-1, 2, 3));
        due.number("within the first band still", laws.tick(0, 0, 1), 0);
        due.number("above the first band still", laws.tick(0, 0, 1.125), 100);
        due.number("below the first band still", laws.tick(0, 1.125, 0), 0);
    }
}
