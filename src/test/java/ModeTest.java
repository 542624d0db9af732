/** Promise 6: the mode, changed without a jump. */
public final class ModeTest {
    public static void main(String[] args) {
        Due due = new Due();
        takesModes(due);
        turnsToHand(due);
        turnsToLaw(due);
        turnsToOnAndOff(due);
        leavesTheOutput(due);
        sameModeChangesNothing(due);
        leavesTheRest(due);
        refusesModes(due);
        refusesLoops(due);
        due.end();
    }

    // "The mode from now on .. True."; "mode is not 0 .. 2": what is.
    private static void takesModes(Due due) {
        for (int from = 0; from < 3; from++) {
            for (int to = 0; to < 3; to++) {
                LoopLaws laws = Loops.one(2, 0, 0, from);
                due.yes("mode " + to + " from " + from, laws.mode(0, to));
                double want = to == 0 ? 0 : to == 1 ? 20 : 100;
                due.number("a tick in mode " + to + " from " + from, laws.tick(0, 0, 10), want);
            }
        }
    }

    // "to 0: h becomes u"
    private static void turnsToHand(Due due) {
        LoopLaws laws = Loops.one(1, 0, 0, 1);
        laws.tick(0, 0, 42);
        due.yes("mode 0", laws.mode(0, 0));
        due.number("by hand u stays", laws.tick(0, 0, 99), 42);
        laws.hand(0, 10);
        laws.mode(0, 2);
        due.yes("mode 0 from mode 2", laws.mode(0, 0));
        due.number("the hand value became u", laws.tick(0, 0, 0), 42);
        Loops.force(laws, 0, -70);
        laws.mode(0, 1);
        due.yes("mode 0 with u below LOW", laws.mode(0, 0));
        due.number("u stays below LOW", laws.tick(0, 0, 0), -70);
        Loops.force(laws, 0, 170);
        laws.mode(0, 2);
        due.yes("mode 0 with u above HIGH", laws.mode(0, 0));
        due.number("u stays above HIGH", laws.tick(0, 0, 0), 170);
    }

    // "to 1: s becomes u - p * l"
    private static void turnsToLaw(Due due) {
        LoopLaws laws = Loops.many(0);
        laws.loop(2, 0.5, 0);
        laws.hand(0, 30);
        laws.tick(0, 4, 10);
        due.yes("mode 1", laws.mode(0, 1));
        due.number("s is 30 - 12, then 18 + 3 + 12", laws.tick(0, 4, 10), 33);
        laws.mode(0, 2);
        laws.tick(0, 4, 10);
        due.yes("mode 1 from mode 2", laws.mode(0, 1));
        due.number("s is 100 - 12, then 88 - 8 - 32", laws.tick(0, 26, 10), 48);
        LoopLaws far = Loops.one(1, 0, 0, 2);
        Loops.force(far, 0, -70);
        far.mode(0, 1);
        far.limits(0, -100, 100, 100);
        due.number("s is a u below LOW", far.tick(0, 0, 0), -70);
    }

    private static void turnsToOnAndOff(Due due) {
        LoopLaws laws = Loops.one(1, 1, 0, 1);
        laws.tick(0, 0, 20);
        due.yes("mode 2", laws.mode(0, 2));
        due.number("u stays within the band", laws.tick(0, 0, 0), 40);
        due.number("u is switched on", laws.tick(0, 0, 2), 100);
    }

    // A mode alone moves nothing: an inner loop tells u without a tick.
    private static void leavesTheOutput(Due due) {
        for (int mode = 0; mode < 3; mode++) {
            LoopLaws laws = Loops.echoes(2);
            laws.cascade(0, 1);
            laws.tick(0, 0, 40);
            due.yes("mode " + mode, laws.mode(0, mode));
            due.number("u stays in mode " + mode, laws.tick(1, 0, 0), 40);
        }
    }

    // "when it is another one": else h and s stay.
    private static void sameModeChangesNothing(Due due) {
        Refusals refusals = new Refusals(due);
        refusals.yes("mode 1 again", laws -> laws.mode(0, 1));
        refusals.yes("mode 0 again", laws -> laws.mode(1, 0));
        refusals.yes("mode 2 again", laws -> laws.mode(2, 2));
        refusals.yes("mode 0 again at first", laws -> laws.mode(3, 0));

        LoopLaws hand = Loops.many(1);
        hand.hand(0, 60);
        due.yes("mode 0 again, u is 0", hand.mode(0, 0));
        due.number("the hand value stays", hand.tick(0, 0, 0), 60);
        LoopLaws law = Loops.one(0, 1, 0, 1);
        law.limits(0, 0, 100, 5);
        law.tick(0, 0, 20);
        due.yes("mode 1 again, u is 5", law.mode(0, 1));
        law.limits(0, 0, 100, 100);
        due.number("the sum stays", law.tick(0, 0, 0), 20);
    }

    // On and off neither h nor s counts, so that a way there and back changes nothing; nor does one
    // from hand and back where h is u.
    private static void leavesTheRest(Due due) {
        Refusals refusals = new Refusals(due);
        refusals.yes("to the hand and back", laws -> laws.mode(2, 0) && laws.mode(2, 2));
        refusals.yes("to the law and back", laws -> laws.mode(2, 1) && laws.mode(2, 2));
        refusals.yes("a new loop to the law and back", laws -> laws.mode(3, 1) && laws.mode(3, 0));
        refusals.yes("a new loop on and off and back", laws -> laws.mode(3, 2) && laws.mode(3, 0));
    }

    // "False, refused, when .. mode is not 0 .. 2"
    private static void refusesModes(Due due) {
        Refusals refusals = new Refusals(due);
        int[] wrong = {-1, 3, 4, -2, Integer.MAX_VALUE, Integer.MIN_VALUE};
        for (int m : wrong) {
            for (int loop = 0; loop < Plant.LOOPS; loop++) {
                int n = loop;
                refusals.no("mode " + m + " of loop " + n, laws -> laws.mode(n, m));
            }
        }
    }

    // "False, refused, when there is no such loop"
    private static void refusesLoops(Due due) {
        Refusals refusals = new Refusals(due);
        for (int n : Loops.beyond(Plant.LOOPS)) {
            for (int mode = 0; mode < 3; mode++) {
                int m = mode;
                refusals.no("mode " + m + " of loop " + n, laws -> laws.mode(n, m));
            }
        }
        due.yes("mode of the last loop", Plant.running().mode(Plant.LOOPS - 1, 2));
        due.no("mode of loop 16 of 16", Loops.many(16).mode(16, 1));
        due.yes("mode of loop 15 of 16", Loops.many(16).mode(15, 1));
    }
}
