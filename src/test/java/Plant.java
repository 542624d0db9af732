import java.util.ArrayList;
import java.util.Collections;
import java.util.List;
import java.util.function.Consumer;

/** An object at work: loops in all three modes, led, faulty, tuned and split. */
final class Plant {
    static final int LOOPS = 4;
    static final int SPLITS = 3;

    private static final double[][] GAINS = {{2, 0.5, 1}, {1, 0.25, 0}, {0.5, 0, 0}, {1, 1, 1}};

    // Loop 0 is by its law, 1 by hand and led by 0, 2 on and off, and 3 as it was made. None of
    // these settings has a say in another one.
    private static final List<List<Consumer<LoopLaws>>> SETTINGS = List.of(
            List.of(
                    laws -> laws.limits(0, 5, 65, 7),
                    laws -> laws.safe(0, 33),
                    laws -> laws.band(0, -2, 3),
                    laws -> laws.range(0, -40, 90),
                    laws -> laws.mode(0, 1)),
            List.of(
                    laws -> laws.limits(1, -20, 80, 4),
                    laws -> laws.safe(1, -6),
                    laws -> laws.band(1, -4, 4),
                    laws -> laws.range(1, -50, 50),
                    laws -> laws.hand(1, 20),
                    laws -> laws.cascade(0, 1)),
            List.of(
                    laws -> laws.limits(2, 10, 50, 15),
                    laws -> laws.safe(2, 23),
                    laws -> laws.band(2, -1.5, 2.5),
                    laws -> laws.range(2, -55, 55),
                    laws -> laws.mode(2, 2)),
            List.of());

    private Plant() {
    }

    static LoopLaws running() {
        LoopLaws laws = withLoops();
        for (int loop = 0; loop < LOOPS; loop++) {
            make(laws, SETTINGS.get(loop));
        }
        for (int loop = 0; loop < LOOPS; loop++) {
            tune(laws, loop);
            tick(laws, loop);
        }
        for (int loop = 0; loop < LOOPS; loop++) {
            split(laws, loop);
        }
        return laws;
    }

    /** The same, but each loop is made, and split, behind all the work of the one before. */
    static LoopLaws grown() {
        LoopLaws laws = new LoopLaws();
        for (int loop = 0; loop < LOOPS; loop++) {
            laws.loop(GAINS[loop][0], GAINS[loop][1], GAINS[loop][2]);
            split(laws, loop);
            make(laws, SETTINGS.get(loop));
            tune(laws, loop);
            tick(laws, loop);
        }
        return laws;
    }

    /** The same, but what comes first there comes last here, where the order has no say. */
    static LoopLaws reversed() {
        LoopLaws laws = withLoops();
        for (int loop = 0; loop < LOOPS; loop++) {
            split(laws, loop);
        }
        for (int loop = LOOPS - 1; loop >= 0; loop--) {
            List<Consumer<LoopLaws>> settings = new ArrayList<>(SETTINGS.get(loop));
            Collections.reverse(settings);
            make(laws, settings);
        }
        for (int loop = 0; loop < LOOPS; loop++) {
            tick(laws, loop);
        }
        for (int loop = LOOPS - 1; loop >= 0; loop--) {
            tune(laws, loop);
        }
        return laws;
    }

    private static LoopLaws withLoops() {
        LoopLaws laws = new LoopLaws();
        for (double[] gains : GAINS) {
            laws.loop(gains[0], gains[1], gains[2]);
        }
        return laws;
    }

    private static void make(LoopLaws laws, List<Consumer<LoopLaws>> calls) {
        for (Consumer<LoopLaws> call : calls) {
            call.accept(laws);
        }
    }

    // One fault of each loop that is at work, and one tick behind it.
    private static void tick(LoopLaws laws, int loop) {
        if (loop < 3) {
            laws.tick(loop, 91, 5);
            laws.tick(loop, 10, 18);
        }
    }

    private static void tune(LoopLaws laws, int loop) {
        if (loop < 3) {
            laws.tune(loop, loop == 2 ? 60 : 40);
        }
    }

    private static void split(LoopLaws laws, int loop) {
        if (loop < 3) {
            laws.split(loop, loop == 0 ? 20 : 30);
        }
    }
}
