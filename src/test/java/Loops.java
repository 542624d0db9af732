/** Objects that many tests begin with. */
final class Loops {
    static final double NAN = Double.NaN;
    static final double INFINITE = Double.POSITIVE_INFINITY;

    private Loops() {
    }

    /** An object with one loop, number 0, in the given mode. */
    static LoopLaws one(double p, double i, double d, int mode) {
        LoopLaws laws = new LoopLaws();
        laws.loop(p, i, d);
        laws.mode(0, mode);
        return laws;
    }

    /** An object with so many loops without gains. */
    static LoopLaws many(int count) {
        LoopLaws laws = new LoopLaws();
        for (int k = 0; k < count; k++) {
            laws.loop(0, 0, 0);
        }
        return laws;
    }
}
