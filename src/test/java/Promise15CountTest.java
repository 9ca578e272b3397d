/** count. */
@Of("Promise 15")
public final class Promise15CountTest {
    public static void main(String[] args) {
        Tests.run(Promise15CountTest.class);
    }

    /** Windows of 20 and 5 ticks. */
    private static SeparationMonitor twoWindows() {
        SeparationMonitor x = Rig.set(Rig.STOP, 1, Asm.CALL);
        x.window(1, 5);
        return x;
    }

    @Says("1 if it's BOOTED, else 0 (0)")
    static void bootedOrNot() {
        SeparationMonitor x = twoWindows();
        Check.due("before", x.count(0), 0);
        x.boot();
        Check.due("booted", x.count(0), 1);
        x.run(400);
        Check.due("still booted", x.count(0), 1);
        x.reset();
        Check.due("reset", x.count(0), 0);
    }

    @Says("TIME (1)")
    static void timeGoesOnOverRuns() {
        SeparationMonitor x = twoWindows();
        x.boot();
        for (int n = 0; n < 100; n++) {
            Check.due("time", x.count(1), 400 * n);
            x.run(400);
        }
    }

    @Says("the number of the WINDOW (2), TICKS left in it (3)")
    static void theWindowAndItsTicks() {
        SeparationMonitor x = twoWindows();
        int log = x.boot();
        Rig.dueCounts(x, 1, 0, 0, 20, log, 1, 2, 1);
        x.run(1);
        Rig.dueCounts(x, 1, 1, 0, 19, log, 1, 2, 1);
        x.run(18);
        Rig.dueCounts(x, 1, 19, 0, 1, log, 1, 2, 1);
        x.run(1);
        Rig.dueCounts(x, 1, 20, 1, 5, log, 2, 2, 1);
        x.run(4);
        Rig.dueCounts(x, 1, 24, 1, 1, log, 2, 2, 1);
        x.run(1);
        Rig.dueCounts(x, 1, 25, 0, 20, log, 3, 2, 1);
    }

    @Says("THE LOG (4)")
    static void theLogStaysUntilTheReset() {
        SeparationMonitor x = twoWindows();
        int log = x.boot();
        Check.isTrue("there is a log", log != 0);
        Check.due("the log", x.count(4), log);
        x.run(100);
        Check.due("the log after a run", x.count(4), log);
    }

    @Says("WINDOWS begun since it BOOTED, the first one, too (5)")
    static void theFirstWindowHasBegunAtTheBoot() {
        SeparationMonitor x = twoWindows();
        x.boot();
        Check.due("booted", x.count(5), 1);
        x.run(19);
        Check.due("before its last tick", x.count(5), 1);
        x.run(1);
        Check.due("after its last tick", x.count(5), 2);
        x.run(5);
        Check.due("the first again", x.count(5), 3);
        x.run(400);
        Check.due("16 rounds later", x.count(5), 35);
        x.reset();
        x.boot();
        Check.due("booted again", x.count(5), 1);
    }

    @Says("0 if it isn't BOOTED")
    static void allIs0BeforeTheBootAndAfterAReset() {
        SeparationMonitor x = twoWindows();
        Rig.dueCounts(x, 0, 0, 0, 0, 0, 0, 2, 0);
        x.boot();
        x.run(22);
        x.reset();
        Rig.dueCounts(x, 0, 0, 0, 0, 0, 0, 2, 1);
    }

    @Says("WINDOWS there (6)")
    static void windowsFrom0To6() {
        SeparationMonitor x = new SeparationMonitor(1);
        for (int n = 0; n < 6; n++) {
            Check.due("windows", x.count(6), n);
            x.window(0, 1);
        }
        Check.due("windows", x.count(6), 6);
        x.boot();
        Check.due("windows, booted", x.count(6), 6);
    }

    @Says("how often it BOOTED (7)")
    static void bootsAreCountedForEver() {
        SeparationMonitor x = twoWindows();
        for (int n = 0; n < 50; n++) {
            Check.due("boots", x.count(7), n);
            x.boot();
            Check.due("boots, booted", x.count(7), n + 1);
            Check.notNow("boot", Check.call(x::boot));
            x.reset();
        }
        Check.due("boots", x.count(7), 50);
    }

    @Says("else -1")
    static void otherNumbersAreMinus1() {
        SeparationMonitor x = twoWindows();
        int[] others = {-1, 8, 9, Rig.MIN, Rig.MAX};
        for (int round = 0; round < 2; round++) {
            for (int what : others) {
                Check.due("count(" + what + ")", x.count(what), -1);
            }
            if (round == 0) {
                x.boot();
            }
        }
    }
}
