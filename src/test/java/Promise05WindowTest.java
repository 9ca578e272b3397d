/** Promise 5: window. */
public final class Promise05WindowTest {
    public static void main(String[] args) {
        sixCanBeThere();
        numbersOutOfRangeAreBad();
        notNowIfBooted();
        theyComeInTheirOrder();
        Check.done();
    }

    private static void sixCanBeThere() {
        SeparationMonitor x = new SeparationMonitor(1);
        for (int n = 1; n <= 6; n++) {
            Check.due("window " + n, x.window(n % 4, n), n);
            Check.due("count(6)", x.count(6), n);
        }
        Check.notNow("a seventh window", Check.call(() -> x.window(0, 1)));
        Check.bad("a bad seventh window", Check.call(() -> x.window(4, 1)));
        Check.due("count(6)", x.count(6), 6);
    }

    private static void numbersOutOfRangeAreBad() {
        SeparationMonitor x = new SeparationMonitor(1);
        int[][] calls = {{-1, 1}, {4, 1}, {0, 0}, {0, 21}, {0, -1}, {0, Integer.MAX_VALUE}, {Integer.MIN_VALUE, 5}};
        for (int[] c : calls) {
            Check.bad("window(" + c[0] + ", " + c[1] + ")", Check.call(() -> x.window(c[0], c[1])));
        }
        Check.due("count(6)", x.count(6), 0);
        Check.due("window(3, 20)", x.window(3, 20), 1);
        Check.due("window(0, 1)", x.window(0, 1), 2);
    }

    private static void notNowIfBooted() {
        SeparationMonitor x = new SeparationMonitor(1);
        x.window(0, 1);
        x.boot();
        Check.notNow("window when booted", Check.call(() -> x.window(0, 1)));
        Check.bad("bad window when booted", Check.call(() -> x.window(0, 0)));
        Check.due("count(6)", x.count(6), 1);
        x.reset();
        Check.due("window after reset", x.window(1, 2), 2);
    }

    private static void theyComeInTheirOrder() {
        SeparationMonitor x = new SeparationMonitor(1);
        int[] lengths = {3, 1, 20};
        for (int w = 0; w < 3; w++) {
            x.window(w, lengths[w]);
        }
        x.boot();
        for (int round = 0; round < 2; round++) {
            for (int w = 0; w < 3; w++) {
                for (int left = lengths[w]; left > 0; left--) {
                    Check.due("window now", x.count(2), w);
                    Check.due("ticks left", x.count(3), left);
                    x.run(1);
                }
            }
        }
    }
}
