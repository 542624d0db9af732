/** Promises 12 and 13: tuning, and the gains that come of it. */
public final class TuneTest {
    public static void main(String[] args) {
        Due due = new Due();
        countsSwitches(due);
        givesGains(due);
        givesNoGainsBeforeTwoRises(due);
        agreesWithTheWords(due);
        keepsForEachLoop(due);
        keepsAnew(due);
        refusesTunings(due);
        refusesGains(due);
        leavesTheLoopAlone(due);
        due.end();
    }

    private static void countsSwitches(Due due) {
        LoopLaws laws = Loops.many(1);
        due.number("tune 1", laws.tune(0, 1), 0);
        due.number("tune 15", laws.tune(0, 15), 0);
        due.number("tune 16", laws.tune(0, 16), 1);
        due.number("tune 40", laws.tune(0, 40), 4);
        due.number("tune 1000", laws.tune(0, 1000), 124);
        due.number("tune 10000", laws.tune(0, 10000), 1249);
        due.number("tune 40 again", laws.tune(0, 40), 4);
    }

    private static void givesGains(Due due) {
        LoopLaws laws = Loops.many(1);
        laws.tune(0, 40);
        due.number("gain 0 of 40", laws.tuned(0, 0), 3.9364612699710064);
        due.number("gain 1 of 40", laws.tuned(0, 1), 0.4920576587463758);
        due.number("gain 2 of 40", laws.tuned(0, 2), 7.872922539942013);
        laws.tune(0, 10000);
        due.number("gain 0 of 10000", laws.tuned(0, 0), 3.903108097732385);
        due.number("gain 1 of 10000", laws.tuned(0, 1), 0.4878885122165481);
        due.number("gain 2 of 10000", laws.tuned(0, 2), 7.80621619546477);
    }

    private static void givesNoGainsBeforeTwoRises(Due due) {
        LoopLaws laws = Loops.many(1);
        due.number("not tuned", laws.tuned(0, 0), 0);
        int[] seconds = {1, 4, 5, 15, 16, 17, 25, 30};
        for (int n : seconds) {
            laws.tune(0, n);
            for (int k = 0; k < 3; k++) {
                due.number("gain " + k + " of " + n, laws.tuned(0, k), 0);
            }
        }
    }

    // Reckons a tuning as the document words it, with every second kept.
    private static void agreesWithTheWords(Due due) {
        LoopLaws laws = Loops.many(1);
        for (int seconds = 1; seconds <= 200; seconds++) {
            agreesFor(due, laws, seconds);
        }
        agreesFor(due, laws, 9999);
    }

    private static void agreesFor(Due due, LoopLaws laws, int seconds) {
        int[] r = new int[seconds];
        double[] ends = new double[seconds];
        double y = 0;
        for (int t = 0; t < seconds; t++) {
            r[t] = y < 0.5 ? 1 : 0;
            double q = t < 4 ? 0 : r[t - 4];
            y = y + (q - y) * 0.0625;
            ends[t] = y;
        }
        int switches = 0;
        int first = seconds;
        int rise = -1;
        int riseBefore = -1;
        for (int t = 1; t < seconds; t++) {
            if (r[t] != r[t - 1]) {
                switches++;
                first = Math.min(first, t);
            }
            if (r[t] == 1 && r[t - 1] == 0) {
                riseBefore = rise;
                rise = t;
            }
        }
        double least = 2;
        double greatest = -1;
        for (int t = first; t < seconds; t++) {
            least = Math.min(least, ends[t]);
            greatest = Math.max(greatest, ends[t]);
        }
        due.number("tune " + seconds, laws.tune(0, seconds), switches);
        double g = 1 / ((greatest - least) * 0.5);
        double c = rise - riseBefore;
        boolean isTuned = riseBefore >= 0;
        due.number("gain 0 of " + seconds, laws.tuned(0, 0), isTuned ? 0.5 * g : 0);
        due.number("gain 1 of " + seconds, laws.tuned(0, 1), isTuned ? g / c : 0);
        due.number("gain 2 of " + seconds, laws.tuned(0, 2), isTuned ? 0.0625 * g * c : 0);
    }

    private static void keepsForEachLoop(Due due) {
        LoopLaws laws = Loops.many(2);
        laws.tune(1, 40);
        due.number("loop 0 was not tuned", laws.tuned(0, 0), 0);
        due.number("loop 1 was", laws.tuned(1, 0), 3.9364612699710064);
        laws.tune(0, 100);
        due.number("loop 0 is now", laws.tuned(0, 0), 3.9036397927484074);
        due.number("loop 1 keeps its own", laws.tuned(1, 0), 3.9364612699710064);
    }

    private static void keepsAnew(Due due) {
        LoopLaws laws = Loops.many(1);
        laws.tune(0, 1000);
        laws.tune(0, 40);
        due.number("the later tuning counts", laws.tuned(0, 0), 3.9364612699710064);
        laws.tune(0, 30);
        due.number("one with one switch to 1 too", laws.tuned(0, 0), 0);
        laws.tune(0, 40);
        laws.tune(0, 10);
        due.number("one without switches too", laws.tuned(0, 0), 0);
    }

    private static void refusesTunings(Due due) {
        LoopLaws laws = Loops.many(1);
        laws.tune(0, 40);
        int[] wrong = {0, -1, 10001, Integer.MAX_VALUE, Integer.MIN_VALUE};
        for (int n : wrong) {
            due.number("tune " + n, laws.tune(0, n), -1);
        }
        due.number("tune of no loop", laws.tune(1, 40), -1);
        due.number("tune of loop -1", laws.tune(-1, 40), -1);
        due.number("what was kept stays", laws.tuned(0, 0), 3.9364612699710064);
        due.number("the seconds too", laws.tuned(0, 1), 0.4920576587463758);
    }

    private static void refusesGains(Due due) {
        LoopLaws laws = Loops.many(1);
        laws.tune(0, 40);
        int[] wrong = {-1, 3, Integer.MAX_VALUE, Integer.MIN_VALUE};
        for (int k : wrong) {
            due.number("gain " + k, laws.tuned(0, k), 0);
            due.number("gain of no loop " + k, laws.tuned(k, 0), 0);
        }
    }

    private static void leavesTheLoopAlone(Due due) {
        LoopLaws laws = Loops.one(1, 1, 1, 1);
        due.number("10 + 10 + 10", laws.tick(0, 0, 10), 30);
        laws.tune(0, 1000);
        due.number("10 + 20 + 0", laws.tick(0, 0, 10), 30);
        due.number("no fault of a tuning", laws.fault(0), 0);
    }
}
