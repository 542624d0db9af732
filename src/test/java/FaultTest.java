/** Promise 14 and Terms: faults, what they change and what they leave. */
public final class FaultTest {
    public static void main(String[] args) {
        Due due = new Due();
        countsFaults(due);
        countsForEachLoop(due);
        countsAllTheCallsOfAnObject(due);
        changesTheOutputAlone(due);
        faultsInEveryMode(due);
        countsNothingElse(due);
        refusesLoops(due);
        due.end();
    }

    // "How many faults a loop had"
    private static void countsFaults(Due due) {
        LoopLaws laws = Loops.many(1);
        due.number("no fault yet", laws.fault(0), 0);
        laws.range(0, -5, 30);
        laws.hand(0, 40);
        due.number("on the range's low", laws.tick(0, -5, 0), 40);
        due.number("on its high", laws.tick(0, 30, 0), 40);
        due.number("still no fault", laws.fault(0), 0);
        due.number("just below it", laws.tick(0, Loops.below(-5), 0), 0);
        due.number("one fault", laws.fault(0), 1);
        due.number("back to the hand value", laws.tick(0, 0, 0), 40);
        due.number("still one fault", laws.fault(0), 1);
        due.number("just above it", laws.tick(0, Loops.above(30), 0), 0);
        due.number("two faults", laws.fault(0), 2);
        due.number("far above it", laws.tick(0, 1000000, 0), 0);
        due.number("three faults", laws.fault(0), 3);
        due.number("a refused tick", laws.tick(0, Loops.above(1000000), 0), 0);
        due.number("still three faults", laws.fault(0), 3);
    }

    private static void countsForEachLoop(Due due) {
        LoopLaws laws = Loops.many(16);
        for (int k = 0; k < 16; k++) {
            laws.range(k, 0, 0);
            for (int n = 0; n < k; n++) {
                laws.tick(k, 1, 0);
            }
        }
        for (int k = 0; k < 16; k++) {
            due.number("faults of loop " + k, laws.fault(k), k);
        }
    }

    // "An object is used for at most 512 calls": nothing is lost on the way there.
    private static void countsAllTheCallsOfAnObject(Due due) {
        LoopLaws laws = Loops.many(1);
        laws.range(0, 0, 0);
        for (int k = 0; k < 509; k++) {
            laws.tick(0, 1, 0);
        }
        due.number("call 512", laws.fault(0), 509);
    }

    // "u becomes the safe value, and nothing else changes": s, l and h stay.
    private static void changesTheOutputAlone(Due due) {
        LoopLaws laws = Loops.one(1, 1, 1, 1);
        laws.limits(0, -100, 100, 1000);
        laws.range(0, 0, 50);
        laws.safe(0, 5);
        due.number("10 + 10 + 10", laws.tick(0, 10, 20), 30);
        due.number("a fault", laws.tick(0, 60, 20), 5);
        due.number("sum and last error stayed: 10 + 20 + 0", laws.tick(0, 10, 20), 30);
        LoopLaws hand = Loops.many(1);
        hand.range(0, 0, 50);
        hand.hand(0, 20);
        hand.safe(0, 5);
        due.number("a fault by hand", hand.tick(0, 60, 20), 5);
        due.number("the hand value stayed", hand.tick(0, 10, 20), 20);
    }

    private static void faultsInEveryMode(Due due) {
        for (int mode = 0; mode < 3; mode++) {
            LoopLaws laws = Loops.one(1, 0, 0, mode);
            laws.limits(0, 0, 10, 1);
            laws.range(0, 0, 10);
            laws.safe(0, 70);
            due.number("a fault in mode " + mode, laws.tick(0, 11, 500), 70);
            due.number("counted in mode " + mode, laws.fault(0), 1);
        }
    }

    private static void countsNothingElse(Due due) {
        Refusals refusals = new Refusals(due);
        refusals.number("asking for the faults changes nothing", laws -> laws.fault(0), 1);
        refusals.number("asking where there are none", laws -> laws.fault(3), 0);
    }

    // "NONE", when there is no such loop
    private static void refusesLoops(Due due) {
        Refusals refusals = new Refusals(due);
        for (int n : Loops.beyond(Plant.LOOPS)) {
            refusals.number("fault of loop " + n, laws -> laws.fault(n), -1);
        }
        LoopLaws laws = Loops.many(16);
        due.number("fault of loop 15 of 16", laws.fault(15), 0);
        due.number("fault of loop 16 of 16", laws.fault(16), -1);
    }
}
