/** region. */
@Of("Promise 2")
public final class Promise02RegionTest {
    public static void main(String[] args) {
        Tests.run(Promise02RegionTest.class);
    }

    private static void bad(SeparationMonitor x, int p, int first, int size) {
        Check.bad("region(" + p + ", " + first + ", " + size + ")", () -> x.region(p, first, size));
    }

    private static void taken(int p, int first, int size) {
        SeparationMonitor x = new SeparationMonitor(1);
        Check.fine("region(" + p + ", " + first + ", " + size + ")", () -> x.region(p, first, size));
        Rig.dueRegion(x, p, first, size);
    }

    @Says("PARTITION p has a REGION of size WORDS")
    static void aRegionIsKeptUntilThereIsAnother() {
        SeparationMonitor x = new SeparationMonitor(1);
        x.region(2, 10, 5);
        Rig.dueRegion(x, 2, 10, 5);
        Rig.dueRegion(x, 0, 0, 0);
        Rig.dueRegion(x, 3, 0, 0);
        x.region(2, 11, 6);
        Rig.dueRegion(x, 2, 11, 6);
    }

    @Says("PARTITION p")
    static void thereArePartitions0To3() {
        SeparationMonitor x = new SeparationMonitor(1);
        int[] none = {-1, 4, Rig.MIN, Rig.MAX};
        for (int p : none) {
            bad(x, p, 0, 0);
        }
        for (int p = 0; p < 4; p++) {
            taken(p, 5, 6);
        }
    }

    @Says("size WORDS (0 .. 32)")
    static void sizesFrom0To32AreTaken() {
        SeparationMonitor x = new SeparationMonitor(1);
        int[] sizes = {-1, 33, 96, Rig.MIN, Rig.MAX};
        for (int size : sizes) {
            bad(x, 0, 0, size);
        }
        bad(x, 0, 95, Rig.MAX);
        bad(x, 0, 1, Rig.MAX);
        taken(0, 7, 0);
        taken(0, 7, 1);
        taken(0, 7, 31);
        taken(0, 7, 32);
    }

    @Says("from first (0 .. 95) on")
    static void firstsFrom0To95AreTaken() {
        SeparationMonitor x = new SeparationMonitor(1);
        int[] firsts = {-1, 96, Rig.MIN, Rig.MAX};
        for (int first : firsts) {
            bad(x, 0, first, 0);
            bad(x, 0, first, 1);
        }
        taken(0, 0, 0);
        taken(0, 95, 0);
        taken(0, 0, 1);
        taken(0, 95, 1);
    }

    @Says("all in MEMORY (else bad)")
    static void theLastWordMayBe95AndNot96() {
        SeparationMonitor x = new SeparationMonitor(1);
        bad(x, 0, 65, 32);
        bad(x, 0, 95, 2);
        bad(x, 0, 90, 7);
        bad(x, 0, 95, 32);
        taken(0, 64, 32);
        taken(0, 94, 2);
        taken(0, 90, 6);
    }

    @Says("all in MEMORY (else bad)")
    static void aBadRegionLeavesTheOneBefore() {
        SeparationMonitor x = new SeparationMonitor(1);
        x.region(0, 3, 4);
        bad(x, 0, 65, 32);
        bad(x, 0, 5, 33);
        bad(x, 0, 96, 2);
        Rig.dueRegion(x, 0, 3, 4);
    }

    @Says("one that another PARTITION's (both sizes above 0) overlaps: UnsupportedOperationException")
    static void oneWordInCommonIsAnOverlap() {
        SeparationMonitor x = new SeparationMonitor(1);
        x.region(1, 20, 10);
        int[][] calls = {{20, 10}, {19, 2}, {11, 10}, {29, 1}, {29, 5}, {15, 30}, {24, 2}, {20, 1}};
        for (int[] c : calls) {
            Check.overlap("region(0, " + c[0] + ", " + c[1] + ")", () -> x.region(0, c[0], c[1]));
            Check.overlap("region(3, " + c[0] + ", " + c[1] + ")", () -> x.region(3, c[0], c[1]));
        }
        Rig.dueRegion(x, 0, 0, 0);
        Rig.dueRegion(x, 1, 20, 10);
        Rig.dueRegion(x, 3, 0, 0);
    }

    @Says("one that another PARTITION's (both sizes above 0) overlaps: UnsupportedOperationException")
    static void oneWordOverOneWordIsAnOverlap() {
        SeparationMonitor x = new SeparationMonitor(1);
        x.region(1, 20, 1);
        Check.overlap("one word", () -> x.region(0, 20, 1));
        Check.overlap("many words up to it", () -> x.region(0, 10, 11));
        Check.overlap("many words from it on", () -> x.region(0, 20, 11));
        Check.fine("the words before it", () -> x.region(0, 10, 10));
        Check.fine("the words behind it", () -> x.region(2, 21, 10));
    }

    @Says("one that another PARTITION's (both sizes above 0) overlaps: UnsupportedOperationException")
    static void neighboursDoNotOverlap() {
        SeparationMonitor x = new SeparationMonitor(1);
        x.region(1, 20, 10);
        Check.fine("up to its first word", () -> x.region(0, 10, 10));
        Check.fine("from behind its last word on", () -> x.region(2, 30, 10));
        Rig.dueRegion(x, 0, 10, 10);
        Rig.dueRegion(x, 2, 30, 10);
        Check.overlap("over the lower neighbour", () -> x.region(1, 19, 2));
        Check.overlap("over the upper neighbour", () -> x.region(1, 29, 2));
        Rig.dueRegion(x, 1, 20, 10);
    }

    @Says("(both sizes above 0)")
    static void anEmptyRegionMayBeInAnothers() {
        SeparationMonitor x = new SeparationMonitor(1);
        x.region(1, 20, 10);
        Check.fine("an empty one inside", () -> x.region(0, 25, 0));
        Check.fine("an empty one at its first word", () -> x.region(2, 20, 0));
        Rig.dueRegion(x, 0, 25, 0);
        Rig.dueRegion(x, 2, 20, 0);
    }

    @Says("(both sizes above 0)")
    static void aRegionMayBeOverAnEmptyOne() {
        SeparationMonitor x = new SeparationMonitor(1);
        x.region(0, 25, 0);
        Check.fine("over the empty one", () -> x.region(1, 20, 10));
        Rig.dueRegion(x, 1, 20, 10);
        Check.fine("over those that are empty at first", () -> x.region(1, 0, 1));
        Rig.dueRegion(x, 1, 0, 1);
    }

    @Says("another PARTITION's")
    static void aPartitionMayMoveOverItself() {
        SeparationMonitor x = new SeparationMonitor(1);
        x.region(1, 20, 10);
        Check.fine("over its own words", () -> x.region(1, 25, 10));
        Rig.dueRegion(x, 1, 25, 10);
        Check.fine("the same again", () -> x.region(1, 25, 10));
    }

    @Says("another PARTITION's")
    static void wordsThatWereLeftAreFree() {
        SeparationMonitor x = new SeparationMonitor(1);
        x.region(1, 20, 10);
        x.region(1, 20, 0);
        Check.fine("where another was", () -> x.region(0, 20, 10));
        Check.overlap("back to where it was", () -> x.region(1, 20, 10));
    }

    @Says("Not now if BOOTED")
    static void notNowIfBooted() {
        SeparationMonitor x = Rig.booted(Rig.STOP, 4);
        Check.notNow("region when booted", () -> x.region(1, 50, 1));
        Rig.dueRegion(x, 1, 0, 0);
        x.reset();
        Check.fine("region after reset", () -> x.region(1, 50, 1));
        Rig.dueRegion(x, 1, 50, 1);
    }
}
