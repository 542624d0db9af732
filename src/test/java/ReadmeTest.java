/** The example of README.md, with the answers that stand beside its calls. */
public final class ReadmeTest {
    public static void main(String[] args) {
        Due due = new Due();
        LoopLaws laws = new LoopLaws();
        controlsALevel(due, laws);
        controlsByHandAndOnAndOff(due, laws);
        tunes(due, laws);
        due.end();
    }

    private static void controlsALevel(Due due, LoopLaws laws) {
        due.number("the level's loop", laws.loop(2.0, 0.5, 1.0), 0);
        due.number("the flow's loop", laws.loop(1.0, 0.0, 0.0), 1);
        due.yes("limits", laws.limits(0, 0.0, 50.0, 5.0));
        due.yes("the level by its law", laws.mode(0, 1));
        due.yes("the flow by its law", laws.mode(1, 1));
        due.yes("cascade", laws.cascade(0, 1));
        due.number("the level's tick", laws.tick(0, 10.0, 20.0), 5);
        due.number("the flow's tick", laws.tick(1, 2.0, 0.0), 3);

        due.number("split", laws.split(1, 60.0), 0);
        due.number("part 0", laws.part(0, 0), 5);
        due.number("part 1", laws.part(0, 1), 0);

        due.yes("range", laws.range(1, 0.0, 40.0));
        due.yes("safe", laws.safe(1, 7.0));
        due.number("a fault", laws.tick(1, 41.0, 0.0), 7);
        due.number("how many faults", laws.fault(1), 1);
    }

    private static void controlsByHandAndOnAndOff(Due due, LoopLaws laws) {
        due.yes("by hand", laws.mode(0, 0));
        due.yes("hand", laws.hand(0, 8.0));
        due.number("a tick by hand", laws.tick(0, 10.0, 20.0), 8);

        due.yes("on and off", laws.mode(0, 2));
        due.yes("band", laws.band(0, -2.0, 2.0));
        due.number("a tick within the band", laws.tick(0, 18.0, 20.0), 8);
        due.number("a tick above the band", laws.tick(0, 17.0, 20.0), 13);
    }

    private static void tunes(Due due, LoopLaws laws) {
        due.number("tune", laws.tune(0, 40), 4);
        due.number("tuned 0", laws.tuned(0, 0), 3.9364612699710064);
        due.number("tuned 1", laws.tuned(0, 1), 0.4920576587463758);
        due.number("tuned 2", laws.tuned(0, 2), 7.872922539942013);
    }
}
