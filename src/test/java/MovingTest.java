/** Terms: MOVING u to w, by the rate at most, in each mode. */
public final class MovingTest {
    public static void main(String[] args) {
        Due due = new Due();
        movesUp(due);
        movesDown(due);
        movesOnFromWhereItIs(due);
        movesInEveryMode(due);
        due.end();
    }

    private static double movedByHand(double from, double to, double rate) {
        LoopLaws laws = Loops.many(1);
        laws.limits(0, -10000, 10000, rate);
        Loops.force(laws, 0, from);
        laws.hand(0, to);
        return laws.tick(0, 0, 0);
    }

    // "when w is above u + rate, u becomes u + rate"
    private static void movesUp(Due due) {
        due.number("to just below u + rate", movedByHand(0, Loops.below(4), 4), Loops.below(4));
        due.number("to u + rate", movedByHand(0, 4, 4), 4);
        due.number("to just above u + rate", movedByHand(0, Loops.above(4), 4), 4);
        due.number("to far above", movedByHand(3, 10000, 4), 7);
        due.number("to all that it may rise", movedByHand(0, 10000, 10000), 10000);
        due.number("to more than it may rise", movedByHand(-1, 10000, 10000), 9999);
    }

    // "when it is below u - rate, u - rate; else w"
    private static void movesDown(Due due) {
        due.number("to just above u - rate", movedByHand(0, Loops.above(-4), 4), Loops.above(-4));
        due.number("to u - rate", movedByHand(0, -4, 4), -4);
        due.number("to just below u - rate", movedByHand(0, Loops.below(-4), 4), -4);
        due.number("to far below", movedByHand(3, -10000, 4), -1);
        due.number("to all that it may fall", movedByHand(0, -10000, 10000), -10000);
        due.number("to more than it may fall", movedByHand(1, -10000, 10000), -9999);
        due.number("to where it is", movedByHand(3, 3, 4), 3);
    }

    private static void movesOnFromWhereItIs(Due due) {
        LoopLaws laws = Loops.many(1);
        laws.limits(0, 0, 100, 4);
        laws.hand(0, 10);
        due.number("up by the rate", laws.tick(0, 500, -500), 4);
        due.number("up again", laws.tick(0, 0, 0), 8);
        due.number("there", laws.tick(0, 0, 0), 10);
        due.number("stays", laws.tick(0, 0, 0), 10);
        laws.hand(0, 3);
        due.number("down by the rate", laws.tick(0, 0, 0), 6);
        due.number("down, there", laws.tick(0, 0, 0), 3);
        laws.limits(0, 50, 100, 4);
        due.number("by hand no limit holds u", laws.tick(0, 0, 0), 3);
    }

    private static void movesInEveryMode(Due due) {
        LoopLaws laws = Loops.one(1, 0, 0, 1);
        laws.limits(0, 0, 100, 2.5);
        due.number("by its law, up by the rate", laws.tick(0, 0, 10), 2.5);
        due.number("by its law, up by just the rate", laws.tick(0, 0, 5), 5);
        due.number("by its law, down by the rate", laws.tick(0, 10, 0), 2.5);
        due.number("by its law, down by just the rate", laws.tick(0, 0, 0), 0);
        laws.mode(0, 2);
        due.number("on, by the rate", laws.tick(0, 0, 10), 2.5);
        due.number("on, by the rate again", laws.tick(0, 0, 10), 5);
        due.number("off, by the rate", laws.tick(0, 10, 0), 2.5);
        laws.limits(0, 50, 60, 4);
        due.number("towards a new LOW by the rate", laws.tick(0, 10, 0), 6.5);
    }
}
