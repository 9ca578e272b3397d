/** window. */
@Of("Promise 5")
public final class Promise05WindowTest {
    public static void main(String[] args) {
        Tests.run(Promise05WindowTest.class);
    }

    @Says("A new last WINDOW")
    static void theNewOneIsTheLast() {
        SeparationMonitor x = new SeparationMonitor(1);
        x.window(0, 2);
        x.window(0, 5);
        x.boot();
        x.run(2);
        x.reset();
        x.window(3, 9);
        x.boot();
        int[] lengths = {2, 5, 9};
        for (int w = 0; w < 3; w++) {
            Check.due("window", x.count(2), w);
            Check.due("ticks", x.count(3), lengths[w]);
            x.run(lengths[w]);
        }
        Check.due("window behind the last", x.count(2), 0);
    }

    @Says("A new last WINDOW")
    static void partitionsAre0To3AndLengths1To20() {
        SeparationMonitor x = new SeparationMonitor(1);
        int[][] calls = {{-1, 1}, {4, 1}, {Rig.MIN, 5}, {Rig.MAX, 5}, {0, 0}, {0, 21}, {0, -1}, {0, Rig.MAX},
            {0, Rig.MIN}};
        for (int[] c : calls) {
            Check.bad("window(" + c[0] + ", " + c[1] + ")", Check.call(() -> x.window(c[0], c[1])));
        }
        Check.due("windows", x.count(6), 0);
        Check.due("window(3, 20)", x.window(3, 20), 1);
        Check.due("window(0, 1)", x.window(0, 1), 2);
    }

    @Says("Not now if BOOTED")
    static void notNowIfBooted() {
        SeparationMonitor x = new SeparationMonitor(1);
        x.window(0, 1);
        x.boot();
        Check.notNow("window when booted", Check.call(() -> x.window(0, 1)));
        Check.due("windows", x.count(6), 1);
        x.reset();
        Check.due("window after reset", x.window(1, 2), 2);
    }

    @Says("or 6 are there")
    static void aSeventhIsRefusedAndChangesNothing() {
        SeparationMonitor x = new SeparationMonitor(1);
        for (int n = 1; n <= 6; n++) {
            x.window(n % 4, n);
        }
        for (int n = 0; n < 3; n++) {
            Check.notNow("a seventh", Check.call(() -> x.window(0, 1)));
        }
        Check.due("windows", x.count(6), 6);
        x.boot();
        x.run(21);
        Rig.dueCounts(x, 1, 21, 0, 1);
    }

    @Says("or 6 are there")
    static void theSixAreStillThereAfterAReset() {
        SeparationMonitor x = new SeparationMonitor(1);
        for (int n = 1; n <= 5; n++) {
            x.window(0, 1);
        }
        x.boot();
        x.reset();
        Check.due("the sixth", x.window(0, 1), 6);
        Check.notNow("a seventh", Check.call(() -> x.window(0, 1)));
        x.boot();
        x.reset();
        Check.notNow("a seventh, later", Check.call(() -> x.window(0, 1)));
    }

    @Says("Answers how many")
    static void itAnswersHowManyThereAre() {
        SeparationMonitor x = new SeparationMonitor(1);
        for (int n = 1; n <= 6; n++) {
            Check.due("window " + n, x.window(3, 20), n);
            Check.due("count(6)", x.count(6), n);
        }
    }
}
