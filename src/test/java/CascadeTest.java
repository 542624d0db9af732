/** Promise 8: cascades. */
public final class CascadeTest {
    public static void main(String[] args) {
        Due due = new Due();
        leadsTheInnerLoop(due);
        leadsInEveryMode(due);
        takesThePlaceOfAnother(due);
        leadsTheSameAgain(due);
        leavesTheOutputs(due);
        refusesLoopsThatAreNone(due);
        refusesOneLoop(due);
        refusesCircles(due);
        refusesNoMoreThanCircles(due);
        refusesTheLongestCircle(due);
        due.end();
    }

    // "The outer loop's output is the inner one's target from now on"; "as it is then"
    private static void leadsTheInnerLoop(Due due) {
        LoopLaws laws = Loops.echoes(2);
        due.number("its own target before", laws.tick(1, 0, 700), 700);
        due.yes("cascade", laws.cascade(0, 1));
        due.number("the outer one's u is 0 yet", laws.tick(1, 5, 700), -5);
        due.number("the outer one takes its target", laws.tick(0, 0, 30), 30);
        due.number("the inner one takes the outer u", laws.tick(1, 5, 700), 25);
        due.number("a refused tick of the outer one", laws.tick(0, 0, 2000000), 0);
        due.number("leads on", laws.tick(1, 6, 700), 24);
        laws.tick(0, 0, 40);
        due.number("as it is then", laws.tick(1, 5, 700), 35);
        Loops.force(laws, 0, -17);
        due.number("as it is behind a fault", laws.tick(1, 0, 700), -17);
        laws.range(0, -100, 100);
        due.number("the inner one does not lead", laws.tick(0, 1, 3), 2);
    }

    private static void leadsInEveryMode(Due due) {
        LoopLaws laws = Loops.echoes(2);
        laws.cascade(0, 1);
        laws.tick(0, 0, 30);
        laws.mode(0, 0);
        laws.mode(1, 2);
        due.number("the error of an inner loop on and off", laws.tick(1, 0, -700), 10000);
        due.number("below the band by the outer u", laws.tick(1, 32, 700), 0);
        laws.mode(1, 0);
        laws.tick(1, 5, 700);
        laws.mode(1, 1);
        laws.tick(1, 30, 700);
        due.number("l of an inner loop by hand was 25", laws.tick(1, 30, 700), -25);
    }

    // "in the place of any other one"
    private static void takesThePlaceOfAnother(Due due) {
        LoopLaws laws = Loops.echoes(4);
        laws.tick(0, 0, 10);
        laws.tick(1, 0, 20);
        due.yes("cascade 0, 2", laws.cascade(0, 2));
        due.number("led by 0", laws.tick(2, 1, 0), 9);
        due.yes("cascade 1, 2", laws.cascade(1, 2));
        due.number("led by 1", laws.tick(2, 1, 0), 19);
        laws.tick(0, 0, 15);
        due.number("led by 1 still", laws.tick(2, 1, 0), 19);
        due.yes("one outer loop leads two", laws.cascade(1, 3));
        due.number("the other inner one", laws.tick(3, 2, 0), 18);
        due.number("the first inner one still", laws.tick(2, 2, 0), 18);
        due.yes("0 is free to be led now", laws.cascade(2, 0));
        due.number("0 is led by 2", laws.tick(0, 3, 0), 15);
        due.no("1 is not free to be led by 0", laws.cascade(0, 1));
    }

    private static void leadsTheSameAgain(Due due) {
        Refusals refusals = new Refusals(due);
        refusals.yes("the same cascade again", laws -> laws.cascade(0, 1));
        Refusals longer = new Refusals(due, CascadeTest::chain);
        longer.yes("the same cascade again, led by hand", laws -> laws.cascade(1, 2));
        longer.yes("the same cascade again, led on and off", laws -> laws.cascade(2, 3));
        Refusals law = new Refusals(due, CascadeTest::ledByLaw);
        law.yes("the same cascade again, by law", laws -> laws.cascade(2, 0));
        LoopLaws hand = Loops.many(2);
        hand.hand(0, 40);
        due.yes("cascade with an outer one by hand", hand.cascade(0, 1));
        due.number("the outer one keeps its hand value", hand.tick(0, 0, 0), 40);
    }

    private static LoopLaws ledByLaw() {
        LoopLaws laws = Plant.running();
        laws.cascade(2, 0);
        laws.tick(0, 10, 18);
        laws.tick(0, 15, 18);
        return laws;
    }

    private static void leavesTheOutputs(Due due) {
        LoopLaws laws = Loops.echoes(3);
        laws.cascade(1, 2);
        laws.tick(0, 0, 10);
        laws.tick(1, 0, 20);
        due.yes("cascade", laws.cascade(0, 1));
        due.number("the inner one's u stays without a tick", laws.tick(2, 0, 0), 20);
        due.number("and follows with one", laws.tick(1, 0, 0), 10);
        due.number("all the way down", laws.tick(2, 0, 0), 10);
    }

    // "False, refused, when one is no loop"
    private static void refusesLoopsThatAreNone(Due due) {
        Refusals refusals = new Refusals(due);
        for (int n : Loops.beyond(Plant.LOOPS)) {
            for (int loop = 0; loop < Plant.LOOPS; loop++) {
                int k = loop;
                refusals.no("cascade " + k + ", " + n, laws -> laws.cascade(k, n));
                refusals.no("cascade " + n + ", " + k, laws -> laws.cascade(n, k));
            }
            refusals.no("cascade " + n + ", " + n, laws -> laws.cascade(n, n));
        }
        LoopLaws laws = Loops.many(16);
        due.no("cascade 15, 16 of 16", laws.cascade(15, 16));
        due.no("cascade 16, 15 of 16", laws.cascade(16, 15));
        due.yes("cascade 14, 15 of 16", laws.cascade(14, 15));
        due.yes("cascade 15, 0 of 16", laws.cascade(15, 0));
    }

    // "both are one"
    private static void refusesOneLoop(Due due) {
        Refusals refusals = new Refusals(due);
        for (int loop = 0; loop < Plant.LOOPS; loop++) {
            int n = loop;
            refusals.no("cascade " + n + ", " + n, laws -> laws.cascade(n, n));
        }
        LoopLaws laws = Loops.echoes(1);
        due.no("cascade of the only loop", laws.cascade(0, 0));
        due.number("it has its own target", laws.tick(0, 1, 4), 3);
    }

    // Loop 0 leads 1, that leads 2, and that leads 3.
    private static LoopLaws chain() {
        LoopLaws laws = Plant.running();
        laws.cascade(1, 2);
        laws.cascade(2, 3);
        return laws;
    }

    // "or the inner one is the outer one's outer loop, or that one's, and so on"
    private static void refusesCircles(Due due) {
        Refusals pair = new Refusals(due);
        pair.no("the outer one's outer loop as the inner", laws -> laws.cascade(1, 0));
        Refusals refusals = new Refusals(due, CascadeTest::chain);
        refusals.no("the outer one's outer loop", laws -> laws.cascade(1, 0));
        refusals.no("the outer one's outer loop, in the middle", laws -> laws.cascade(2, 1));
        refusals.no("the outer one's outer loop, at the end", laws -> laws.cascade(3, 2));
        refusals.no("that one's", laws -> laws.cascade(2, 0));
        refusals.no("that one's, at the end", laws -> laws.cascade(3, 1));
        refusals.no("and so on", laws -> laws.cascade(3, 0));
    }

    // The ways that lead down the chain are none back.
    private static void refusesNoMoreThanCircles(Due due) {
        due.yes("0 leads 1 as before", chain().cascade(0, 1));
        due.yes("0 leads 2, past 1", chain().cascade(0, 2));
        due.yes("0 leads 3, past all", chain().cascade(0, 3));
        due.yes("1 leads 3, past 2", chain().cascade(1, 3));
        LoopLaws laws = chain();
        laws.cascade(0, 3);
        due.no("3 leads not 0 still", laws.cascade(3, 0));
        due.yes("3 may lead 2 now", laws.cascade(3, 2));
        due.no("2 may lead 3 no more", laws.cascade(2, 3));
        due.yes("3 may lead 1 now", laws.cascade(3, 1));
    }

    private static void refusesTheLongestCircle(Due due) {
        LoopLaws laws = Loops.echoes(16);
        for (int k = 14; k >= 0; k--) {
            due.yes("cascade " + k + ", " + (k + 1), laws.cascade(k, k + 1));
        }
        for (int k = 0; k < 15; k++) {
            due.no("a circle back to " + k, laws.cascade(15, k));
            due.no("a circle from " + (k + 1) + " to 0", laws.cascade(k + 1, 0));
        }
        due.number("0 has its own target still", laws.tick(0, 0, 5), 5);
        for (int k = 1; k < 16; k++) {
            due.number("down to " + k, laws.tick(k, 0, 0), 5);
        }
    }
}
