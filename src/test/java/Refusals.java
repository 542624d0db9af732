import java.util.function.Predicate;
import java.util.function.Supplier;
import java.util.function.ToDoubleFunction;

/**
 * Makes calls that are to change nothing, each on an object made for it, and compares all that the
 * object answers afterwards with the answers of one on which the call was never made.
 */
final class Refusals {
    private final Due due;
    private final Supplier<LoopLaws> maker;
    private final double[] untouched;

    Refusals(Due due, Supplier<LoopLaws> maker) {
        this.due = due;
        this.maker = maker;
        untouched = Afterwards.answers(maker);
    }

    /** On the object at work of Plant. */
    Refusals(Due due) {
        this(due, Plant::running);
    }

    void no(String call, Predicate<LoopLaws> made) {
        number(call, laws -> made.test(laws) ? 1 : 0, 0);
    }

    /** A call that is taken, and changes nothing all the same. */
    void yes(String call, Predicate<LoopLaws> made) {
        number(call, laws -> made.test(laws) ? 1 : 0, 1);
    }

    void number(String call, ToDoubleFunction<LoopLaws> made, double want) {
        alike("behind " + call, () -> {
            LoopLaws laws = maker.get();
            due.number(call, made.applyAsDouble(laws), want);
            return laws;
        });
    }

    /** Whether an object that was made in another way is the same one. */
    void alike(String how, Supplier<LoopLaws> other) {
        double[] after = Afterwards.answers(other);
        for (int k = 0; k < untouched.length; k++) {
            if (after[k] != untouched[k]) {
                due.number("answer " + k + " " + how, after[k], untouched[k]);
                return;
            }
        }
    }
}
