/** Terms: mode 2, on and off with a band. */
public final class OnOffTest {
    public static void main(String[] args) {
        Due due = new Due();
        switchesOn(due);
        switchesOff(due);
        staysWithinTheBand(due);
        asksNoGains(due);
        due.end();
    }

    private static LoopLaws at(double u) {
        LoopLaws laws = Loops.one(0, 0, 0, 2);
        Loops.force(laws, 0, u);
        laws.range(0, -10, 10);
        laws.limits(0, 10, 50, 1000);
        laws.band(0, -2, 3);
        return laws;
    }

    // "when e is above the band u moves to HIGH"
    private static void switchesOn(Due due) {
        due.number("just below the band's high", at(30).tick(0, 0, Loops.below(3)), 30);
        due.number("on the band's high", at(30).tick(0, 0, 3), 30);
        due.number("just above the band's high", at(30).tick(0, 0, Loops.above(3)), 50);
        due.number("far above", at(30).tick(0, -10, 1000000), 50);
        due.number("u is above HIGH, e above", at(70).tick(0, 0, 4), 50);
    }

    // "when e is below it to LOW"
    private static void switchesOff(Due due) {
        due.number("just above the band's low", at(30).tick(0, 0, Loops.above(-2)), 30);
        due.number("on the band's low", at(30).tick(0, 0, -2), 30);
        due.number("just below the band's low", at(30).tick(0, 0, Loops.below(-2)), 10);
        due.number("far below", at(30).tick(0, 10, -1000000), 10);
        due.number("u is below LOW, e below", at(-70).tick(0, 0, -4), 10);
    }

    // "else u stays"
    private static void staysWithinTheBand(Due due) {
        due.number("no error", at(30).tick(0, 0, 0), 30);
        due.number("u is above HIGH", at(70).tick(0, 0, 0), 70);
        due.number("u is below LOW", at(-70).tick(0, 0, 0), -70);
    }

    private static void asksNoGains(Due due) {
        LoopLaws laws = Loops.one(5, 5, 5, 2);
        laws.limits(0, 10, 50, 30);
        laws.band(0, -2, 3);
        due.number("on, by the rate", laws.tick(0, 0, 4), 30);
        due.number("within: stays", laws.tick(0, 2, 0), 30);
        due.number("on, at HIGH", laws.tick(0, 0, 4), 50);
        due.number("off, by the rate", laws.tick(0, 3, 0), 20);
        due.number("off, at LOW", laws.tick(0, 3, 0), 10);
        due.number("within: stays at LOW", laws.tick(0, 0, 0), 10);
    }
}
