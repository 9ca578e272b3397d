/** Promise 2: region. */
public final class Promise02RegionTest {
    public static void main(String[] args) {
        aRegionIsKept();
        edgesOfMemoryAreTaken();
        numbersOutOfRangeAreBad();
        overlapsAreNotSupported();
        emptyRegionsOverlapNothing();
        aPartitionMayMoveOverItself();
        notNowIfBooted();
        Check.done();
    }

    private static void dueRegion(SeparationMonitor x, int p, int first, int size) {
        Check.due("first of " + p, x.told(p, 7), first);
        Check.due("size of " + p, x.told(p, 8), size);
    }

    private static void aRegionIsKept() {
        SeparationMonitor x = new SeparationMonitor(1);
        x.region(2, 10, 5);
        dueRegion(x, 2, 10, 5);
        dueRegion(x, 0, 0, 0);
        dueRegion(x, 3, 0, 0);
        x.region(2, 11, 6);
        dueRegion(x, 2, 11, 6);
    }

    private static void edgesOfMemoryAreTaken() {
        SeparationMonitor x = new SeparationMonitor(1);
        x.region(0, 0, 32);
        x.region(1, 64, 32);
        x.region(2, 63, 1);
        x.region(3, 95, 0);
        dueRegion(x, 0, 0, 32);
        dueRegion(x, 1, 64, 32);
        dueRegion(x, 2, 63, 1);
        dueRegion(x, 3, 95, 0);
        x.region(1, 0, 0);
        x.region(3, 95, 1);
        dueRegion(x, 3, 95, 1);
    }

    private static void numbersOutOfRangeAreBad() {
        SeparationMonitor x = new SeparationMonitor(1);
        x.region(0, 3, 4);
        int[][] calls = {
            {-1, 0, 1}, {4, 0, 1}, {0, -1, 1}, {0, 96, 0}, {0, 0, -1}, {0, 0, 33}, {0, 65, 32},
            {0, 95, 2}, {0, 90, 7}, {Integer.MIN_VALUE, 0, 0}, {Integer.MAX_VALUE, 0, 0},
            {0, Integer.MAX_VALUE, 1}, {0, Integer.MIN_VALUE, 1}, {0, 1, Integer.MAX_VALUE},
            {0, 1, Integer.MIN_VALUE},
        };
        for (int[] c : calls) {
            Check.bad("region(" + c[0] + ", " + c[1] + ", " + c[2] + ")", () -> x.region(c[0], c[1], c[2]));
        }
        dueRegion(x, 0, 3, 4);
        x.region(1, 80, 10);
        Check.bad("bad before an overlap", () -> x.region(0, 85, 32));
    }

    private static void overlapsAreNotSupported() {
        SeparationMonitor x = new SeparationMonitor(1);
        x.region(1, 20, 10);
        int[][] calls = {{20, 10}, {19, 2}, {29, 1}, {29, 5}, {15, 30}, {24, 2}, {20, 1}};
        for (int[] c : calls) {
            Check.overlap("region(0, " + c[0] + ", " + c[1] + ")", () -> x.region(0, c[0], c[1]));
            Check.overlap("region(3, " + c[0] + ", " + c[1] + ")", () -> x.region(3, c[0], c[1]));
        }
        dueRegion(x, 0, 0, 0);
        x.region(0, 10, 10);
        x.region(2, 30, 10);
        dueRegion(x, 0, 10, 10);
        dueRegion(x, 2, 30, 10);
        Check.overlap("over the lower neighbour", () -> x.region(1, 19, 2));
        Check.overlap("over the upper neighbour", () -> x.region(1, 29, 2));
        dueRegion(x, 1, 20, 10);
        SeparationMonitor y = new SeparationMonitor(1);
        y.region(1, 20, 1);
        Check.overlap("one word over one word", () -> y.region(0, 20, 1));
        Check.overlap("many words over one word", () -> y.region(0, 10, 11));
        y.region(0, 10, 10);
        dueRegion(y, 0, 10, 10);
    }

    private static void emptyRegionsOverlapNothing() {
        SeparationMonitor x = new SeparationMonitor(1);
        x.region(1, 20, 10);
        x.region(0, 25, 0);
        dueRegion(x, 0, 25, 0);
        x.region(1, 24, 3);
        dueRegion(x, 1, 24, 3);
    }

    private static void aPartitionMayMoveOverItself() {
        SeparationMonitor x = new SeparationMonitor(1);
        x.region(1, 20, 10);
        x.region(1, 25, 10);
        dueRegion(x, 1, 25, 10);
    }

    private static void notNowIfBooted() {
        SeparationMonitor x = Rig.booted(Rig.STOP, 4);
        Check.notNow("region when booted", () -> x.region(1, 50, 1));
        Check.notNow("region over another's when booted", () -> x.region(1, Rig.FIRST, 1));
        Check.bad("bad region when booted", () -> x.region(4, 50, 1));
        dueRegion(x, 1, 0, 0);
        x.reset();
        x.region(1, 50, 1);
        dueRegion(x, 1, 50, 1);
    }
}
