/** Promise 2: loops, what they start with, and how many there are. */
public final class LoopTest {
    private static final double[] NO_GAINS = {
        -0.125, -Double.MIN_VALUE, 1000.125, 1e300, Loops.NAN, Loops.INFINITE, -Loops.INFINITE};

    public static void main(String[] args) {
        Due due = new Due();
        numbersLoops(due);
        refusesGains(due);
        fills(due);
        startsAsTold(due);
        due.end();
    }

    private static void numbersLoops(Due due) {
        LoopLaws laws = new LoopLaws();
        due.number("loop with the least gains", laws.loop(0, 0, 0), 0);
        due.number("loop with the greatest gains", laws.loop(1000, 1000, 1000), 1);
        due.number("loop", laws.loop(0.5, 1, 2), 2);
        due.number("fault of the last loop", laws.fault(2), 0);
        due.number("fault of the next one", laws.fault(3), -1);
    }

    private static void refusesGains(Due due) {
        LoopLaws laws = new LoopLaws();
        for (double gain : NO_GAINS) {
            due.number("loop with p " + gain, laws.loop(gain, 0, 0), -1);
            due.number("loop with i " + gain, laws.loop(0, gain, 0), -1);
            due.number("loop with d " + gain, laws.loop(0, 0, gain), -1);
        }
        due.number("fault, no loop was made", laws.fault(0), -1);
        due.number("the first loop", laws.loop(0, 0, 0), 0);
    }

    private static void fills(Due due) {
        LoopLaws laws = Loops.many(15);
        due.number("the sixteenth loop", laws.loop(1, 1, 1), 15);
        due.number("the seventeenth loop", laws.loop(1, 1, 1), -2);
        due.number("a wrong gain comes before full", laws.loop(-1, 1, 1), -1);
        due.number("fault of the sixteenth loop", laws.fault(15), 0);
        due.number("fault of the seventeenth loop", laws.fault(16), -1);
    }

    private static void startsAsTold(Due due) {
        LoopLaws laws = new LoopLaws();
        laws.loop(2, 0, 0);
        due.number("a first tick by hand", laws.tick(0, 0, 10), 0);
        due.yes("hand at the first HIGH", laws.hand(0, 100));
        due.no("hand above the first HIGH", laws.hand(0, 100.125));
        due.no("hand below the first LOW", laws.hand(0, -0.125));
        due.number("a first rate of 100", laws.tick(0, 0, 0), 100);
        laws.mode(0, 2);
        due.number("error 1, not above the first band", laws.tick(0, 0, 1), 100);
        due.number("error -1, not below it", laws.tick(0, 1, 0), 100);
        due.number("error below the first band", laws.tick(0, 1.125, 0), 0);
        due.number("error above the first band", laws.tick(0, 0, 1.125), 100);
        laws.range(0, 0, 1);
        due.number("a first safe value", laws.tick(0, 2, 0), 0);
        laws.safe(0, -150);
        laws.tick(0, 2, 0);
        laws.mode(0, 1);
        due.number("a first rate of 100, up from -150", laws.tick(0, 0, 200), -50);
    }
}
