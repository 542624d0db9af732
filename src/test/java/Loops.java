/** Objects that many tests begin with, and values beside an edge. */
final class Loops {
    static final double NAN = Double.NaN;
    static final double INFINITE = Double.POSITIVE_INFINITY;

    private Loops() {
    }

    /** An object with one loop, number 0, in the given mode. */
    static LoopLaws one(double p, double i, double d, int mode) {
        LoopLaws laws = new LoopLaws();
        laws.loop(p, i, d);
        laws.mode(0, mode);
        return laws;
    }

    /** An object with so many loops without gains. */
    static LoopLaws many(int count) {
        LoopLaws laws = new LoopLaws();
        for (int k = 0; k < count; k++) {
            laws.loop(0, 0, 0);
        }
        return laws;
    }

    /** An object with so many loops by their law that put out their error: u is t - m. */
    static LoopLaws echoes(int count) {
        LoopLaws laws = new LoopLaws();
        for (int k = 0; k < count; k++) {
            laws.loop(1, 0, 0);
            laws.limits(k, -10000, 10000, 10000);
            laws.mode(k, 1);
        }
        return laws;
    }

    /** Brings a loop's u to any value by a fault; the loop has the range 0 to 0 behind it. */
    static void force(LoopLaws laws, int loop, double u) {
        laws.safe(loop, u);
        laws.range(loop, 0, 0);
        laws.tick(loop, 1, 0);
    }

    static double above(double v) {
        return Math.nextUp(v);
    }

    static double below(double v) {
        return Math.nextDown(v);
    }

    /** What is not from the least to the greatest, from just outside on. */
    static double[] outside(double least, double greatest) {
        return new double[] {
            below(least), above(greatest), -Double.MAX_VALUE, Double.MAX_VALUE, -INFINITE, INFINITE, NAN};
    }

    /** Numbers of nothing where there are so many, from 0. */
    static int[] beyond(int count) {
        return new int[] {count, count + 1, 15, 16, 17, -1, -16, Integer.MAX_VALUE, Integer.MIN_VALUE};
    }
}
