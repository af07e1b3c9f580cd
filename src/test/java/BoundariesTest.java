/** Runs the tests of boundaries, and sees that they quote each sentence of the document's terms and promises. */
public final class BoundariesTest {
    public static void main(String[] args) throws Exception {
        Class<?>[] all = {
            WaterBounds.class, BoatBounds.class, BaleBounds.class, PlanBounds.class, HostBounds.class,
            ImageBounds.class, Refusals.class,
        };
        for (Class<?> tests : all) Bench.runAll(tests);
        Bench.needAllHeld();
        Bench.end();
    }
}
