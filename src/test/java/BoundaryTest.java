/**
 * Each sentence of ../shared/DOC.md that names a boundary has a test of its own here: the last value that goes,
 * the first that does not, and what a refused call leaves as it was. In the end each sentence that no test is of
 * is told, and counts as wrong.
 */
public final class BoundaryTest {
    public static void main(String[] args) {
        BoundaryThings.all();
        BoundaryCalls.all();
        BoundaryOrders.all();
        BoundaryFast.all();
        BoundaryPromises.all();
        BoundaryCauses.all();
        BoundaryStore.all();
        BoundaryRuns.all();
        BoundarySeeds.all();
        BoundaryAll.all();
        if (Check.finish() > 0) {
            System.exit(1);
        }
    }
}
