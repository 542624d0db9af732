/** Promise 12: tuning, with the seconds it takes and the switches it counts. */
public final class TuneTest {
    private static final double GAIN_OF_40 = 3.9364612699710064;

    public static void main(String[] args) {
        Due due = new Due();
        countsSwitches(due);
        takesSeconds(due);
        agreesWithTheWords(due);
        keepsForEachLoop(due);
        keepsAnew(due);
        leavesTheLoopAlone(due);
        theSameAgainChangesNothing(due);
        refusesSeconds(due);
        refusesLoops(due);
        due.end();
    }

    // "A SWITCH is a second, but the first, in which r is another one than before."; the seconds
    // 15, 23, 31, 39, 47 and 55 are, as q is "the r of four seconds before, 0 in the first four":
    // with any other delay they would be others.
    private static void countsSwitches(Due due) {
        LoopLaws laws = Loops.many(1);
        int[] switches = {15, 23, 31, 39, 47, 55};
        for (int k = 0; k < switches.length; k++) {
            due.number("up to the second before " + switches[k], laws.tune(0, switches[k]), k);
            due.number("up to second " + switches[k], laws.tune(0, switches[k] + 1), k + 1);
        }
        due.number("the first second is none", laws.tune(0, 1), 0);
        due.number("nor are the first four", laws.tune(0, 4), 0);
        due.number("nor is the fifth", laws.tune(0, 5), 0);
    }

    // "for so many seconds (1 to 10,000)"
    private static void takesSeconds(Due due) {
        LoopLaws laws = Loops.many(1);
        due.number("tune 1", laws.tune(0, 1), 0);
        due.number("tune 1000", laws.tune(0, 1000), 124);
        due.number("tune 9999", laws.tune(0, 9999), 1248);
        due.number("tune 10000, whose last second is a switch", laws.tune(0, 10000), 1249);
        due.number("tune 40, the same each time", laws.tune(0, 40), 4);
        due.number("tune 40 again", laws.tune(0, 40), 4);
    }

    // Reckons a tuning as the document words it, with every second kept.
    private static void agreesWithTheWords(Due due) {
        LoopLaws laws = Loops.many(1);
        for (int seconds = 1; seconds <= 120; seconds++) {
            agreesFor(due, laws, seconds);
        }
        agreesFor(due, laws, 9999);
        agreesFor(due, laws, 10000);
    }

    private static void agreesFor(Due due, LoopLaws laws, int seconds) {
        int[] r = new int[seconds];
        double[] ends = new double[seconds];
        double y = 0;
        for (int t = 0; t < seconds; t++) {
            r[t] = y < 0.5 ? 1 : 0;
            double q = t < 4 ? 0 : r[t - 4];
            y = y + (q - y) * 0.0625;
            ends[t] = y;
        }
        int switches = 0;
        int first = seconds;
        int rise = -1;
        int riseBefore = -1;
        for (int t = 1; t < seconds; t++) {
            if (r[t] != r[t - 1]) {
                switches++;
                first = Math.min(first, t);
            }
            if (r[t] == 1 && r[t - 1] == 0) {
                riseBefore = rise;
                rise = t;
            }
        }
        double least = 2;
        double greatest = -1;
        for (int t = first; t < seconds; t++) {
            least = Math.min(least, ends[t]);
            greatest = Math.max(greatest, ends[t]);
        }
        due.number("tune " + seconds, laws.tune(0, seconds), switches);
        double g = 1 / ((greatest - least) * 0.5);
        double c = rise - riseBefore;
        boolean isTuned = riseBefore >= 0;
        due.number("gain 0 of " + seconds, laws.tuned(0, 0), isTuned ? 0.5 * g : 0);
        due.number("gain 1 of " + seconds, laws.tuned(0, 1), isTuned ? g / c : 0);
        due.number("gain 2 of " + seconds, laws.tuned(0, 2), isTuned ? 0.0625 * g * c : 0);
    }

    private static void keepsForEachLoop(Due due) {
        LoopLaws laws = Loops.many(2);
        laws.tune(1, 40);
        due.number("loop 0 was not tuned", laws.tuned(0, 0), 0);
        due.number("loop 1 was", laws.tuned(1, 0), GAIN_OF_40);
        laws.tune(0, 100);
        due.number("loop 0 is now", laws.tuned(0, 0), 3.9036397927484074);
        due.number("loop 1 keeps its own", laws.tuned(1, 0), GAIN_OF_40);
    }

    // "Kept are (anew with each tuning)"
    private static void keepsAnew(Due due) {
        LoopLaws laws = Loops.many(1);
        laws.tune(0, 1000);
        due.number("a long tuning", laws.tuned(0, 0), 3.903108097732385);
        laws.tune(0, 40);
        due.number("a shorter one behind it", laws.tuned(0, 0), GAIN_OF_40);
        laws.tune(0, 39);
        due.number("one switch to 1 behind two", laws.tuned(0, 0), 0);
        laws.tune(0, 40);
        laws.tune(0, 16);
        due.number("no switch to 1 behind two", laws.tuned(0, 0), 0);
        laws.tune(0, 40);
        laws.tune(0, 1);
        due.number("no switch behind four", laws.tuned(0, 0), 0);
        laws.tune(0, 24);
        laws.tune(0, 24);
        due.number("a switch to 1 of each of two tunings", laws.tuned(0, 0), 0);
    }

    private static void leavesTheLoopAlone(Due due) {
        LoopLaws laws = Loops.one(1, 1, 1, 1);
        due.number("10 + 10 + 10", laws.tick(0, 0, 10), 30);
        laws.tune(0, 1000);
        due.number("10 + 20 + 0", laws.tick(0, 0, 10), 30);
        due.number("no fault of a tuning", laws.fault(0), 0);
    }

    // The tuning that a loop had, made once more, shows that it leaves the loop alone.
    private static void theSameAgainChangesNothing(Due due) {
        Refusals refusals = new Refusals(due);
        refusals.number("the same tuning by law", laws -> laws.tune(0, 40), 4);
        refusals.number("the same tuning on and off", laws -> laws.tune(2, 60), 6);
        refusals.number("the same tuning by hand", laws -> laws.tune(1, 40), 4);
        refusals.number("a tuning without gains of a new loop", laws -> laws.tune(3, 1), 0);
    }

    // "NONE, refused, when .. for another number; what was kept stays then."
    private static void refusesSeconds(Due due) {
        Refusals refusals = new Refusals(due);
        int[] wrong = {0, -1, 10001, -10000, Integer.MAX_VALUE, Integer.MIN_VALUE};
        for (int seconds : wrong) {
            for (int loop = 0; loop < Plant.LOOPS; loop++) {
                int n = loop;
                refusals.number("tune " + seconds + " of loop " + n, laws -> laws.tune(n, seconds), -1);
            }
            LoopLaws laws = Plant.running();
            laws.tune(0, seconds);
            due.number("gain 0 is kept", laws.tuned(0, 0), GAIN_OF_40);
            due.number("gain 1 is kept", laws.tuned(0, 1), 0.4920576587463758);
            due.number("gain 2 is kept", laws.tuned(0, 2), 7.872922539942013);
        }
    }

    // "NONE, refused, when there is no such loop"
    private static void refusesLoops(Due due) {
        Refusals refusals = new Refusals(due);
        for (int n : Loops.beyond(Plant.LOOPS)) {
            refusals.number("tune of loop " + n, laws -> laws.tune(n, 24), -1);
        }
        due.number("tune of the last loop", Plant.running().tune(Plant.LOOPS - 1, 24), 2);
        due.number("tune of loop 16 of 16", Loops.many(16).tune(16, 24), -1);
        due.number("tune of loop 15 of 16", Loops.many(16).tune(15, 24), 2);
    }
}
