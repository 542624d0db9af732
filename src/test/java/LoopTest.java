/** Promise 2: loops, their gains, and how many there are. */
public final class LoopTest {
    private static final double[] NO_GAINS = Loops.outside(0, 1000);

    public static void main(String[] args) {
        Due due = new Due();
        numbersLoops(due);
        takesGains(due);
        usesEachGain(due);
        leavesTheOthers(due);
        refusesGains(due);
        fills(due);
        asksGainsBeforeFull(due);
        fullChangesNothing(due);
        due.end();
    }

    // "A loop: its number."
    private static void numbersLoops(Due due) {
        LoopLaws laws = new LoopLaws();
        for (int k = 0; k < 16; k++) {
            due.number("no loop yet " + k, laws.fault(k), -1);
            due.number("loop " + k, laws.loop(0, 0, 0), k);
            due.number("there it is " + k, laws.fault(k), 0);
        }
    }

    // "when a gain is not 0 to 1,000": what is.
    private static void takesGains(Due due) {
        double[] gains = {0, -0.0, Double.MIN_VALUE, 1, Loops.below(1000), 1000};
        for (double gain : gains) {
            LoopLaws laws = new LoopLaws();
            due.number("loop with p " + gain, laws.loop(gain, 0, 0), 0);
            due.number("loop with i " + gain, laws.loop(0, gain, 0), 1);
            due.number("loop with d " + gain, laws.loop(0, 0, gain), 2);
            due.number("loop with all " + gain, laws.loop(gain, gain, gain), 3);
        }
    }

    private static void usesEachGain(Due due) {
        due.number("p 1000", firstTick(1000, 0, 0), 125);
        due.number("i 1000", firstTick(0, 1000, 0), 125);
        due.number("d 1000", firstTick(0, 0, 1000), 125);
        due.number("no gains", firstTick(0, 0, 0), 0);
    }

    private static double firstTick(double p, double i, double d) {
        LoopLaws laws = Loops.one(p, i, d, 1);
        laws.limits(0, -10000, 10000, 10000);
        return laws.tick(0, 0, 0.125);
    }

    // Loops that are made later leave those alone that work already.
    private static void leavesTheOthers(Due due) {
        new Refusals(due).alike("with loops made late", Plant::grown);
        LoopLaws laws = Loops.many(2);
        laws.hand(0, 40);
        laws.cascade(1, 0);
        Loops.force(laws, 1, 7);
        due.number("a third loop", laws.loop(1, 1, 1), 2);
        due.number("loop 0 keeps its hand value", laws.tick(0, 0, 90), 40);
        laws.mode(0, 2);
        due.number("loop 0 keeps its outer one: 7 - 9 is below the band", laws.tick(0, 9, 90), 0);
    }

    // "NONE, refused, when a gain is not 0 to 1,000"
    private static void refusesGains(Due due) {
        Refusals refusals = new Refusals(due);
        for (double gain : NO_GAINS) {
            refusals.number("loop with p " + gain, laws -> laws.loop(gain, 0, 0), -1);
            refusals.number("loop with i " + gain, laws -> laws.loop(0, gain, 0), -1);
            refusals.number("loop with d " + gain, laws -> laws.loop(0, 0, gain), -1);
            refusals.number("loop with all " + gain, laws -> laws.loop(gain, gain, gain), -1);
        }
    }

    private static LoopLaws withLoops(int count) {
        LoopLaws laws = Plant.running();
        for (int k = Plant.LOOPS; k < count; k++) {
            laws.loop(1, 1, 1);
        }
        return laws;
    }

    // "LOOPS are numbered from 0, at most 16", "behind that FULL"
    private static void fills(Due due) {
        due.number("the sixteenth loop", withLoops(15).loop(1, 1, 1), 15);
        LoopLaws laws = withLoops(16);
        due.number("the seventeenth loop", laws.loop(1, 1, 1), -2);
        due.number("the seventeenth loop again", laws.loop(0, 0, 0), -2);
        due.number("fault of the sixteenth loop", laws.fault(15), 0);
        due.number("fault of the seventeenth loop", laws.fault(16), -1);
    }

    // "NONE .. ; behind that FULL": a wrong gain answers first.
    private static void asksGainsBeforeFull(Due due) {
        LoopLaws laws = withLoops(16);
        for (double gain : NO_GAINS) {
            due.number("p before full " + gain, laws.loop(gain, 0, 0), -1);
            due.number("i before full " + gain, laws.loop(0, gain, 0), -1);
            due.number("d before full " + gain, laws.loop(0, 0, gain), -1);
        }
        due.number("the greatest gains in a full object", laws.loop(1000, 1000, 1000), -2);
    }

    private static void fullChangesNothing(Due due) {
        Refusals refusals = new Refusals(due, () -> withLoops(16));
        refusals.number("the seventeenth loop", laws -> laws.loop(3, 3, 3), -2);
        refusals.number("a wrong seventeenth loop", laws -> laws.loop(-1, 3, 3), -1);
        LoopLaws laws = Loops.echoes(16);
        laws.loop(7, 7, 7);
        for (int k = 0; k < 16; k++) {
            due.number("loop " + k + " keeps its gains", laws.tick(k, 0, 3), 3);
        }
    }
}
