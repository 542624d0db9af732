/** Compares answers with those that are due, prints the wrong ones and counts them. */
final class Due {
    private int wrong;

    void number(String call, double got, double want) {
        if (got != want) {
            wrong++;
            System.out.println(call + " answered " + got + ", due is " + want);
        }
    }

    void yes(String call, boolean got) {
        number(call, got ? 1 : 0, 1);
    }

    void no(String call, boolean got) {
        number(call, got ? 1 : 0, 0);
    }

    void end() {
        if (wrong != 0) {
            System.out.println(wrong + " answers are not as due");
            System.exit(1);
        }
    }
}
