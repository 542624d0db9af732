/** Promises 6 and 7: the mode, changed without a jump, and the hand value. */
public final class ModeHandTest {
    public static void main(String[] args) {
        Due due = new Due();
        turnsToHand(due);
        turnsToLaw(due);
        turnsToOnAndOff(due);
        sameModeChangesNothing(due);
        refusesModes(due);
        takesHandValues(due);
        refusesHandValues(due);
        due.end();
    }

    private static void turnsToHand(Due due) {
        LoopLaws laws = Loops.one(1, 0, 0, 1);
        laws.tick(0, 0, 42);
        due.yes("mode 0", laws.mode(0, 0));
        due.number("by hand u stays", laws.tick(0, 0, 99), 42);
        laws.hand(0, 10);
        laws.mode(0, 2);
        due.yes("mode 0 from mode 2", laws.mode(0, 0));
        due.number("the hand value became u", laws.tick(0, 0, 0), 42);
    }

    private static void turnsToLaw(Due due) {
        LoopLaws laws = Loops.many(0);
        laws.loop(2, 0.5, 0);
        laws.hand(0, 30);
        laws.tick(0, 4, 10);
        due.yes("mode 1", laws.mode(0, 1));
        due.number("s is 30 - 12, then 18 + 3 + 12", laws.tick(0, 4, 10), 33);
        laws.mode(0, 2);
        laws.tick(0, 4, 10);
        due.yes("mode 1 from mode 2", laws.mode(0, 1));
        due.number("s is 100 - 12, then 88 - 8 - 32", laws.tick(0, 26, 10), 48);
    }

    private static void turnsToOnAndOff(Due due) {
        LoopLaws laws = Loops.one(1, 1, 0, 1);
        laws.tick(0, 0, 20);
        due.yes("mode 2", laws.mode(0, 2));
        due.number("u stays within the band", laws.tick(0, 0, 0), 40);
        due.number("u is switched on", laws.tick(0, 0, 2), 100);
    }

    private static void sameModeChangesNothing(Due due) {
        LoopLaws laws = Loops.many(1);
        laws.hand(0, 60);
        due.yes("mode 0 again", laws.mode(0, 0));
        due.number("the hand value stays", laws.tick(0, 0, 0), 60);

        LoopLaws law = Loops.one(1, 1, 0, 1);
        law.limits(0, 0, 100, 5);
        law.tick(0, 0, 20);
        due.yes("mode 1 again", law.mode(0, 1));
        law.limits(0, 0, 100, 100);
        due.number("the sum stays 20", law.tick(0, 0, 0), 20);
        due.yes("mode 2", law.mode(0, 2));
        due.yes("mode 2 again", law.mode(0, 2));
        due.number("u stays", law.tick(0, 0, 0), 20);
    }

    private static void refusesModes(Due due) {
        LoopLaws laws = Loops.one(1, 0, 0, 1);
        int[] wrong = {-1, 3, Integer.MAX_VALUE, Integer.MIN_VALUE};
        for (int m : wrong) {
            due.no("mode " + m, laws.mode(0, m));
            due.no("mode of no loop " + m, laws.mode(m, 1));
        }
        due.number("still by its law", laws.tick(0, 0, 7), 7);
    }

    private static void takesHandValues(Due due) {
        LoopLaws laws = Loops.many(1);
        laws.limits(0, -5, 5, 100);
        due.yes("hand at LOW", laws.hand(0, -5));
        due.number("u at LOW", laws.tick(0, 0, 0), -5);
        due.yes("hand at HIGH", laws.hand(0, 5));
        due.number("u at HIGH", laws.tick(0, 0, 0), 5);
        due.yes("hand between", laws.hand(0, 0.5));
        due.number("u between", laws.tick(0, 0, 0), 0.5);
    }

    private static void refusesHandValues(Due due) {
        LoopLaws laws = Loops.many(1);
        laws.limits(0, -5, 5, 100);
        laws.hand(0, 2);
        double[] wrong = {-5.125, 5.125, Loops.NAN, Loops.INFINITE, -Loops.INFINITE};
        for (double v : wrong) {
            due.no("hand " + v, laws.hand(0, v));
        }
        due.no("hand of no loop", laws.hand(1, 0));
        due.no("hand of loop -1", laws.hand(-1, 0));
        due.number("the hand value stays", laws.tick(0, 0, 0), 2);
        laws.mode(0, 1);
        due.no("hand by the law", laws.hand(0, 1));
        laws.mode(0, 2);
        due.no("hand on and off", laws.hand(0, 1));
        laws.mode(0, 0);
        due.number("no refused hand value came in", laws.tick(0, 0, 0), 2);
        due.yes("hand in mode 0 again", laws.hand(0, 1));
    }
}
