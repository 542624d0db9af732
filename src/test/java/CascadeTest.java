/** Promise 8: cascades. */
public final class CascadeTest {
    public static void main(String[] args) {
        Due due = new Due();
        leadsTheInnerLoop(due);
        takesThePlaceOfAnother(due);
        refusesLoopsThatAreNone(due);
        refusesCircles(due);
        refusesTheLongestCircle(due);
        due.end();
    }

    private static LoopLaws echoes(int count) {
        LoopLaws laws = new LoopLaws();
        for (int k = 0; k < count; k++) {
            laws.loop(1, 0, 0);
            laws.limits(k, -10000, 10000, 10000);
            laws.mode(k, 1);
        }
        return laws;
    }

    private static void leadsTheInnerLoop(Due due) {
        LoopLaws laws = echoes(2);
        due.yes("cascade", laws.cascade(0, 1));
        due.number("the outer one's u is 0 yet", laws.tick(1, 5, 700), -5);
        due.number("the outer one takes its target", laws.tick(0, 0, 30), 30);
        due.number("the inner one takes the outer u", laws.tick(1, 5, 700), 25);
        laws.tick(0, 0, 40);
        due.number("as it is then", laws.tick(1, 5, 700), 35);
        due.number("a wrong target is refused all the same", laws.tick(1, 5, 1000001), 0);
        due.number("the inner one does not lead", laws.tick(0, 1, 3), 2);
    }

    private static void takesThePlaceOfAnother(Due due) {
        LoopLaws laws = echoes(4);
        laws.tick(0, 0, 10);
        laws.tick(1, 0, 20);
        due.yes("cascade 0, 2", laws.cascade(0, 2));
        due.yes("cascade 0, 2 again", laws.cascade(0, 2));
        due.number("led by 0", laws.tick(2, 1, 0), 9);
        due.yes("cascade 1, 2", laws.cascade(1, 2));
        due.number("led by 1", laws.tick(2, 1, 0), 19);
        due.yes("one outer loop leads two", laws.cascade(1, 3));
        due.number("the other inner one", laws.tick(3, 2, 0), 18);
        due.yes("0 is free to be led now", laws.cascade(2, 0));
    }

    private static void refusesLoopsThatAreNone(Due due) {
        LoopLaws laws = echoes(2);
        due.no("no outer loop", laws.cascade(2, 0));
        due.no("no inner loop", laws.cascade(0, 2));
        due.no("outer -1", laws.cascade(-1, 0));
        due.no("inner -1", laws.cascade(0, -1));
        due.no("outer 16", laws.cascade(16, 0));
        due.no("inner 16", laws.cascade(0, 16));
        due.no("both are one", laws.cascade(0, 0));
        due.number("none leads", laws.tick(0, 1, 4), 3);
    }

    private static void refusesCircles(Due due) {
        LoopLaws laws = echoes(4);
        due.yes("cascade 0, 1", laws.cascade(0, 1));
        due.no("the outer one's outer loop as the inner", laws.cascade(1, 0));
        due.yes("cascade 1, 2", laws.cascade(1, 2));
        due.no("that one's", laws.cascade(2, 0));
        due.yes("cascade 2, 3", laws.cascade(2, 3));
        due.no("and so on", laws.cascade(3, 0));
        due.no("and so on, in the middle", laws.cascade(3, 1));
        due.number("loop 0 kept its own target", laws.tick(0, 0, 9), 9);
        due.yes("a shorter way down is no circle", laws.cascade(0, 3));
        due.no("3 leads not 0 still", laws.cascade(3, 0));
        due.yes("3 may lead 2 now", laws.cascade(3, 2));
    }

    private static void refusesTheLongestCircle(Due due) {
        LoopLaws laws = echoes(16);
        for (int k = 0; k < 15; k++) {
            due.yes("cascade " + k + ", " + (k + 1), laws.cascade(k, k + 1));
        }
        due.no("the circle of sixteen", laws.cascade(15, 0));
    }
}
