import java.util.Arrays;
import java.util.function.Consumer;

/** That the helper Afterwards sees whatever may change in an object: else Refusals were blind. */
public final class AfterwardsTest {
    private static final double[] UNTOUCHED = Afterwards.answers(Plant::running);

    public static void main(String[] args) {
        Due due = new Due();
        due.yes("the same calls answer alike", Arrays.equals(UNTOUCHED, Afterwards.answers(Plant::running)));
        seesSettings(due);
        seesWork(due);
        due.end();
    }

    private static void seesSettings(Due due) {
        sees(due, "LOW", laws -> laws.limits(0, 4, 65, 7));
        sees(due, "HIGH", laws -> laws.limits(0, 5, 66, 7));
        sees(due, "rate", laws -> laws.limits(0, 5, 65, 8));
        sees(due, "limits by hand", laws -> laws.limits(1, -20, 81, 4));
        sees(due, "limits on and off", laws -> laws.limits(2, 10, 51, 15));
        sees(due, "limits of the last", laws -> laws.limits(3, 0, 101, 100));
        sees(due, "safe", laws -> laws.safe(0, 34));
        sees(due, "safe without a range", laws -> laws.safe(3, 1));
        sees(due, "hand", laws -> laws.hand(1, 21));
        sees(due, "mode of 0", laws -> laws.mode(0, 0));
        sees(due, "mode of 1", laws -> laws.mode(1, 1));
        sees(due, "mode of 2", laws -> laws.mode(2, 0));
        sees(due, "band's low", laws -> laws.band(2, -1, 2.5));
        sees(due, "band's high", laws -> laws.band(2, -1.5, 2));
        sees(due, "band by hand", laws -> laws.band(1, -3, 4));
        sees(due, "range's low", laws -> laws.range(0, -100, 90));
        sees(due, "range's high", laws -> laws.range(0, -40, 100));
        sees(due, "a first range", laws -> laws.range(3, -900000, 900000));
    }

    private static void seesWork(Due due) {
        sees(due, "loop", laws -> laws.loop(0, 0, 0));
        sees(due, "split", laws -> laws.split(0, 30));
        sees(due, "the outer loop", laws -> laws.cascade(2, 1));
        sees(due, "an outer loop where none was", laws -> laws.cascade(2, 3));
        sees(due, "tick by law", laws -> laws.tick(0, 10, 11));
        sees(due, "tick by hand", laws -> laws.tick(1, 10, 11));
        sees(due, "tick on", laws -> laws.tick(2, 10, 20));
        sees(due, "last error alone", laws -> laws.tick(3, 10, 11));
        sees(due, "fault", laws -> laws.tick(0, 91, 0));
        sees(due, "first tuning", laws -> laws.tune(3, 40));
        sees(due, "tuning anew", laws -> laws.tune(0, 60));
        sees(due, "tuning without gains", laws -> laws.tune(0, 1));
    }

    private static void sees(Due due, String what, Consumer<LoopLaws> change) {
        double[] after = Afterwards.answers(() -> {
            LoopLaws laws = Plant.running();
            change.accept(laws);
            return laws;
        });
        due.no("a change of " + what + " goes unseen", Arrays.equals(UNTOUCHED, after));
    }
}
