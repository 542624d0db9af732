/** Promise 13: the gains that come of a tuning. */
public final class TunedTest {
    public static void main(String[] args) {
        Due due = new Due();
        givesGains(due);
        givesNoneUntuned(due);
        givesNoneBeforeTwoRises(due);
        refusesGains(due);
        refusesLoops(due);
        answersAlikeTwice(due);
        due.end();
    }

    // "0.5 * g (k = 0), g / c (k = 1), 0.0625 * g * c (k = 2)"
    private static void givesGains(Due due) {
        LoopLaws laws = Loops.many(1);
        laws.tune(0, 40);
        due.number("gain 0 of 40", laws.tuned(0, 0), 3.9364612699710064);
        due.number("gain 1 of 40", laws.tuned(0, 1), 0.4920576587463758);
        due.number("gain 2 of 40", laws.tuned(0, 2), 7.872922539942013);
        laws.tune(0, 10000);
        due.number("gain 0 of 10000", laws.tuned(0, 0), 3.903108097732385);
        due.number("gain 1 of 10000", laws.tuned(0, 1), 0.4878885122165481);
        due.number("gain 2 of 10000", laws.tuned(0, 2), 7.80621619546477);
    }

    // "0 when .. it was not tuned"
    private static void givesNoneUntuned(Due due) {
        LoopLaws laws = Loops.many(2);
        for (int k = 0; k < 3; k++) {
            due.number("gain " + k + " untuned", laws.tuned(0, k), 0);
        }
        laws.tune(0, 0);
        laws.tune(0, 10001);
        due.number("refused tunings are none", laws.tuned(0, 0), 0);
        laws.tune(1, 40);
        due.number("another loop's tuning is none", laws.tuned(0, 0), 0);
        laws.tune(0, 40);
        due.number("tuned", laws.tuned(0, 0), 3.9364612699710064);
    }

    // "0 when .. there were not two switches to 1": the second 23 is the first, 39 the second one.
    // Behind two of them y has swung, so that "or a is not above 0" never comes in alone.
    private static void givesNoneBeforeTwoRises(Due due) {
        LoopLaws laws = Loops.many(1);
        int[] seconds = {1, 4, 5, 15, 16, 23, 24, 31, 32, 39};
        for (int n : seconds) {
            laws.tune(0, n);
            for (int k = 0; k < 3; k++) {
                due.number("gain " + k + " of " + n, laws.tuned(0, k), 0);
            }
        }
        laws.tune(0, 40);
        due.number("gain 0 with the second switch to 1", laws.tuned(0, 0), 3.9364612699710064);
        due.number("gain 1 with the second switch to 1", laws.tuned(0, 1), 0.4920576587463758);
        due.number("gain 2 with the second switch to 1", laws.tuned(0, 2), 7.872922539942013);
    }

    // "0 when there is no such .. k"
    private static void refusesGains(Due due) {
        Refusals refusals = new Refusals(due);
        int[] wrong = {-1, 3, 4, 16, Integer.MAX_VALUE, Integer.MIN_VALUE};
        for (int k : wrong) {
            refusals.number("gain " + k, laws -> laws.tuned(0, k), 0);
            refusals.number("gain " + k + " untuned", laws -> laws.tuned(3, k), 0);
        }
    }

    // "0 when there is no such loop"
    private static void refusesLoops(Due due) {
        Refusals refusals = new Refusals(due);
        for (int n : Loops.beyond(Plant.LOOPS)) {
            for (int gain = 0; gain < 3; gain++) {
                int k = gain;
                refusals.number("gain " + k + " of loop " + n, laws -> laws.tuned(n, k), 0);
            }
        }
        LoopLaws laws = Loops.many(16);
        laws.tune(15, 40);
        due.number("gain of loop 15 of 16", laws.tuned(15, 0), 3.9364612699710064);
        due.number("gain of loop 16 of 16", laws.tuned(16, 0), 0);
    }

    private static void answersAlikeTwice(Due due) {
        Refusals refusals = new Refusals(due);
        refusals.number("a gain changes nothing", laws -> laws.tuned(0, 0), 3.9364612699710064);
    }
}
