/** Control loops, reckoned second by second. What each call promises stands in ../shared/DOC.md. */
public final class LoopLaws {
    public static final int NONE = -1;
    public static final int FULL = -2;

    private static final int MOST_LOOPS = 16;
    private static final int MOST_SPLITS = 16;
    private static final int MOST_GAIN = 1_000;
    private static final int MOST_VALUE = 10_000;
    private static final int MOST_READING = 1_000_000;
    private static final int MOST_SECONDS = 10_000;

    private static final int BY_HAND = 0;
    private static final int BY_LAW = 1;
    private static final int ON_AND_OFF = 2;

    private final Loop[] loops;
    private final Split[] splits;
    private int loopCount;
    private int splitCount;

    public LoopLaws() {
        loops = new Loop[MOST_LOOPS];
        splits = new Split[MOST_SPLITS];
    }

    public int loop(double p, double i, double d) {
        if (!isGain(p) || !isGain(i) || !isGain(d)) {
            return NONE;
        }
        if (loopCount >= loops.length) {
            return FULL;
        }
        int number = loopCount;
        loops[number] = new Loop(p, i, d);
        loopCount = number + 1;
        return number;
    }

    public boolean limits(int loop, double low, double high, double rate) {
        Loop found = findLoop(loop);
        if (found == null || !isOrdered(low, high, MOST_VALUE) || low == high) {
            return false;
        }
        if (rate <= 0 || !isWithin(rate, 0, MOST_VALUE)) {
            return false;
        }
        found.limits.set(low, high);
        found.rate = rate;
        return true;
    }

    public boolean safe(int loop, double v) {
        Loop found = findLoop(loop);
        if (found == null || !isWithin(v, -MOST_VALUE, MOST_VALUE)) {
            return false;
        }
        found.safe = v;
        return true;
    }

    public double tick(int loop, double measured, double target) {
        Loop found = findLoop(loop);
        if (found == null || !isReading(measured) || !isReading(target)) {
            return 0;
        }
        found.pass(measured, target);
        return found.output;
    }

    public boolean mode(int loop, int m) {
        Loop found = findLoop(loop);
        if (found == null || m < BY_HAND || m > ON_AND_OFF) {
            return false;
        }
        found.turnTo(m);
        return true;
    }

    public boolean hand(int loop, double v) {
        Loop found = findLoop(loop);
        if (found == null || found.mode != BY_HAND || !found.limits.holds(v)) {
            return false;
        }
        found.hand = v;
        return true;
    }

    public boolean cascade(int outer, int inner) {
        Loop leading = findLoop(outer);
        Loop led = findLoop(inner);
        if (leading == null || led == null || isLed(leading, led)) {
            return false;
        }
        led.outer = leading;
        return true;
    }

    public int split(int loop, double at) {
        Loop found = findLoop(loop);
        if (found == null || !found.limits.holdsInside(at)) {
            return NONE;
        }
        if (splitCount >= splits.length) {
            return FULL;
        }
        int number = splitCount;
        splits[number] = new Split(found, at);
        splitCount = number + 1;
        return number;
    }

    public double part(int split, int which) {
        Split found = findSplit(split);
        if (found == null || which < 0 || which > 1) {
            return -1;
        }
        return found.share(which);
    }

    public boolean band(int loop, double low, double high) {
        Loop found = findLoop(loop);
        if (found == null || !isOrdered(low, high, MOST_VALUE)) {
            return false;
        }
        found.band.set(low, high);
        return true;
    }

    public int tune(int loop, int seconds) {
        Loop found = findLoop(loop);
        if (found == null || seconds < 1 || seconds > MOST_SECONDS) {
            return NONE;
        }
        return found.tuning.run(seconds);
    }

    public double tuned(int loop, int k) {
        Loop found = findLoop(loop);
        return found == null ? 0 : found.tuning.gain(k);
    }

    public int fault(int loop) {
        Loop found = findLoop(loop);
        return found == null ? NONE : found.faults;
    }

    public boolean range(int loop, double low, double high) {
        Loop found = findLoop(loop);
        if (found == null || !isOrdered(low, high, MOST_READING)) {
            return false;
        }
        found.range.set(low, high);
        return true;
    }

    private Loop findLoop(int number) {
        return number < 0 || number >= loops.length ? null : loops[number];
    }

    private Split findSplit(int number) {
        return number < 0 || number >= splits.length ? null : splits[number];
    }

    // Every check asks what must hold, so that a NaN, for which nothing holds, is refused.
    private static boolean isWithin(double v, double low, double high) {
        return v >= low && v <= high;
    }

    private static boolean isGain(double v) {
        return isWithin(v, 0, MOST_GAIN);
    }

    private static boolean isReading(double v) {
        return isWithin(v, -MOST_READING, MOST_READING);
    }

    private static boolean isOrdered(double low, double high, int most) {
        return low >= -most && low <= high && high <= most;
    }

    /** Whether the loop is the wanted one, or has it as its outer loop, or as that one's, and so on. */
    private static boolean isLed(Loop loop, Loop wanted) {
        Loop at = loop;
        for (int steps = 0; steps < MOST_LOOPS && at != null; steps++) {
            if (at == wanted) {
                return true;
            }
            at = at.outer;
        }
        return false;
    }

    /** Two bounds; one object serves a loop for good, so that setting them anew makes nothing. */
    private static final class Span {
        private double low;
        private double high;

        Span(double low, double high) {
            this.low = low;
            this.high = high;
        }

        void set(double newLow, double newHigh) {
            low = newLow;
            high = newHigh;
        }

        boolean holds(double v) {
            return v >= low && v <= high;
        }

        boolean holdsInside(double v) {
            return v > low && v < high;
        }

        double nearest(double v) {
            return v < low ? low : v > high ? high : v;
        }
    }

    private static final class Loop {
        private final double p;
        private final double i;
        private final double d;
        private final Span limits = new Span(0, 100);
        private final Span band = new Span(-1, 1);
        // A loop without a range has the widest one: no reading that a tick takes lies outside.
        private final Span range = new Span(-MOST_READING, MOST_READING);
        private final Tuning tuning = new Tuning();
        private double rate = 100;
        private double safe;
        private double output;
        private double sum;
        private double lastError;
        private double hand;
        private int mode = BY_HAND;
        private int faults;
        private Loop outer;

        Loop(double p, double i, double d) {
            this.p = p;
            this.i = i;
            this.d = d;
        }

        void pass(double measured, double target) {
            if (!range.holds(measured)) {
                output = safe;
                faults++;
                return;
            }
            double error = (outer == null ? target : outer.output) - measured;
            if (mode == BY_HAND) {
                moveTo(hand);
            } else if (mode == BY_LAW) {
                followLaw(error);
            } else {
                switchOnOrOff(error);
            }
            lastError = error;
        }

        private void followLaw(double error) {
            double newSum = sum + i * error;
            double wanted = p * error + newSum + d * (error - lastError);
            boolean windsUp = wanted > limits.high && error > 0;
            boolean windsDown = wanted < limits.low && error < 0;
            if (!windsUp && !windsDown) {
                sum = newSum;
            }
            moveTo(limits.nearest(wanted));
        }

        private void switchOnOrOff(double error) {
            if (error > band.high) {
                moveTo(limits.high);
            } else if (error < band.low) {
                moveTo(limits.low);
            }
        }

        private void moveTo(double wanted) {
            if (wanted > output + rate) {
                output = output + rate;
            } else if (wanted < output - rate) {
                output = output - rate;
            } else {
                output = wanted;
            }
        }

        // Hand value and sum are set so that the output does not jump when the mode changes.
        void turnTo(int newMode) {
            if (newMode == mode) {
                return;
            }
            mode = newMode;
            if (newMode == BY_HAND) {
                hand = output;
            } else if (newMode == BY_LAW) {
                sum = output - p * lastError;
            }
        }
    }

    private static final class Split {
        private final Loop loop;
        private final double at;

        Split(Loop loop, double at) {
            this.loop = loop;
            this.at = at;
        }

        double share(int which) {
            Span limits = loop.limits;
            // The limits may have changed since the split was made; inside them no divisor is 0.
            if (!limits.holdsInside(at)) {
                return 0;
            }
            double share = which == 0
                    ? (loop.output - limits.low) / (at - limits.low) * 100
                    : (loop.output - at) / (limits.high - at) * 100;
            return share < 0 ? 0 : share > 100 ? 100 : share;
        }
    }

    /** The trial by which a loop is tuned: a relay swings a slow process that answers late. */
    private static final class Tuning {
        private double level;
        // The relay of the last four seconds, a bit each, the latest lowest: 0 before the first.
        private int relays;
        private int switches;
        // The second of the last switch to 1; 0 before one, as the first second is no switch.
        private int lastRise;
        private double least;
        private double greatest;
        // The seconds between the last two switches to 1; 0 as long as there were not two.
        private int period;

        int run(int seconds) {
            level = 0;
            relays = 0;
            switches = 0;
            lastRise = 0;
            period = 0;
            for (int second = 0; second < seconds; second++) {
                step(second);
            }
            return switches;
        }

        private void step(int second) {
            int relay = level < 0.5 ? 1 : 0;
            boolean isSwitch = second > 0 && relay != (relays & 1);
            if (isSwitch) {
                countSwitch(second, relay);
            }
            int late = relays >> 3 & 1;
            relays = (relays << 1 | relay) & 15;
            level = level + (late - level) * 0.0625;
            if (switches > 0) {
                keepLevel(isSwitch && switches == 1);
            }
        }

        private void countSwitch(int second, int relay) {
            switches++;
            if (relay == 1) {
                period = lastRise == 0 ? 0 : second - lastRise;
                lastRise = second;
            }
        }

        private void keepLevel(boolean isFirst) {
            least = isFirst || level < least ? level : least;
            greatest = isFirst || level > greatest ? level : greatest;
        }

        double gain(int k) {
            double swing = (greatest - least) * 0.5;
            if (period == 0 || swing <= 0) {
                return 0;
            }
            double g = 1 / swing;
            switch (k) {
                case 0:
                    return 0.5 * g;
                case 1:
                    return g / period;
                case 2:
                    return 0.0625 * g * period;
                default:
                    return 0;
            }
        }
    }
}
