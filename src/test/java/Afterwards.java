import java.util.Arrays;
import java.util.function.Supplier;

/**
 * Long runs of calls on objects like Plant's, whose answers depend on all that an object keeps: two
 * objects that answer alike are alike. With Plant's calls a run stays below the 512 of an object.
 */
final class Afterwards {
    private static final double[] ERRORS = {0, 0, 9, 0, -9, 2, -1.25, 200, 200, -200};
    private static final double[] HANDS = {
        -10000, -21, -20, 0, 4, 5, 10, 50, 51, 65, 66, 80, 81, 100, 101, 10000, 30};
    private static final double[] SWINGS = {
        0.5, -0.5, 1.25, -1.25, 1.75, -1.75, 2.25, -2.25, 2.75, -2.75, 3.5, -3.5, 5, -5};
    private static final double OUTER_SAFE = 33;
    private static final double[] READINGS = {-1000000, -500000, -60, -45, 45, 60, 95, 500000, 1000000};

    private final LoopLaws laws;
    private final double[] answers = new double[512];
    private int count;

    private Afterwards(LoopLaws laws) {
        this.laws = laws;
    }

    /** The answers of all runs, each on an object of its own. */
    static double[] answers(Supplier<LoopLaws> maker) {
        double[] all = {};
        for (int k = 0; k < 4; k++) {
            double[] one = run(maker.get(), k / 2 == 1, k % 2 == 1);
            int before = all.length;
            all = Arrays.copyOf(all, before + one.length);
            System.arraycopy(one, 0, all, before, one.length);
        }
        return all;
    }

    // Ticks as they go show hand values and sums, but hide the last errors, which show in the sums
    // of loops that are turned to their law. Limits and rates hide what loops show that are freed.
    private static double[] run(LoopLaws laws, boolean isTurned, boolean isFreed) {
        Afterwards after = new Afterwards(laws);
        after.askWhatStands();
        for (int loop = 0; loop < Plant.LOOPS; loop++) {
            if (isTurned) {
                after.keep(laws.mode(loop, 1));
            }
            if (isFreed) {
                after.keep(laws.limits(loop, -10000, 10000, 10000));
            }
            after.tickOn(loop);
        }
        for (int loop = 0; loop < Plant.LOOPS; loop++) {
            after.tickOnAndOff(loop);
            after.tickByHand(loop);
            after.tickFaulty(loop);
            after.tickFreely(loop);
        }
        after.askForMore();
        return Arrays.copyOf(after.answers, after.count);
    }

    private void keep(double answer) {
        answers[count] = answer;
        count++;
    }

    private void keep(boolean answer) {
        keep(answer ? 1 : 0);
    }

    private void askWhatStands() {
        for (int loop = 0; loop <= Plant.LOOPS; loop++) {
            keep(laws.fault(loop));
            for (int k = 0; k < 3; k++) {
                keep(laws.tuned(loop, k));
            }
        }
        for (int split = 0; split <= Plant.SPLITS; split++) {
            keep(laws.part(split, 0));
            keep(laws.part(split, 1));
        }
    }

    private void tickOn(int loop) {
        for (double error : ERRORS) {
            keep(laws.tick(loop, 10, 10 + error));
        }
    }

    private void tickByHand(int loop) {
        keep(laws.mode(loop, 0));
        for (double v : HANDS) {
            keep(laws.hand(loop, v));
        }
        keep(laws.tick(loop, 0, 0));
        keep(laws.tick(loop, 0, 0));
    }

    // The one before, by then at its safe value, leads loop 1.
    private void tickOnAndOff(int loop) {
        double target = loop == 1 ? OUTER_SAFE : 0;
        keep(laws.mode(loop, 2));
        for (double error : SWINGS) {
            keep(laws.tick(loop, target - error, target));
        }
    }

    private void tickFaulty(int loop) {
        for (double measured : READINGS) {
            keep(laws.tick(loop, measured, 0));
        }
        keep(laws.fault(loop));
    }

    // Neither limits nor a rate hide what the law reckons; a fault shows the safe value in the end.
    private void tickFreely(int loop) {
        keep(laws.limits(loop, -10000, 10000, 10000));
        keep(laws.mode(loop, 1));
        keep(laws.tick(loop, 0, 1));
        keep(laws.tick(loop, 2, 1));
        keep(laws.tick(loop, 1, 1));
        keep(laws.range(loop, 0, 0));
        keep(laws.tick(loop, 1, 0));
    }

    private void askForMore() {
        keep(laws.loop(1, 1, 1));
        keep(laws.split(0, 30));
        for (int outer = 0; outer < Plant.LOOPS; outer++) {
            for (int inner = 0; inner < Plant.LOOPS; inner++) {
                keep(laws.cascade(outer, inner));
            }
        }
    }
}
