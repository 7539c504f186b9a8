/**
 * For each promise a test of its own for each bound that the document's sentences name, and for
 * each refusal; every sentence of the promises and of 'Terms' has at least one test.
 */
public final class BoundaryTests {
    private BoundaryTests() {
    }

    public static void main(String[] args) {
        TextBounds.all();
        TowerBounds.all();
        FiredBounds.all();
        PlanBounds.all();
        ConeBounds.all();
        SlotBounds.all();
        Bounds.end();
    }
}
