/** That no setting, tuning or split changes what another call has set: their order has no say. */
public final class OrderTest {
    public static void main(String[] args) {
        Due due = new Due();
        Refusals plant = new Refusals(due);
        plant.alike("with all in the reverse order", Plant::reversed);
        plant.alike("with each loop behind the other's work", Plant::grown);
        due.end();
    }
}
