/** Promise 15: count. */
public final class Promise15CountTest {
    public static void main(String[] args) {
        SeparationMonitor x = Rig.set(Rig.STOP, 1, Asm.CALL);
        x.window(1, 5);
        dueCounts(x, 0, 0, 0, 0, 0, 0, 2, 0);
        int log = x.boot();
        Check.isTrue("there is a log", log != 0);
        dueCounts(x, 1, 0, 0, 20, log, 1, 2, 1);
        x.run(1);
        dueCounts(x, 1, 1, 0, 19, log, 1, 2, 1);
        x.run(18);
        dueCounts(x, 1, 19, 0, 1, log, 1, 2, 1);
        x.run(1);
        dueCounts(x, 1, 20, 1, 5, log, 2, 2, 1);
        x.run(6);
        dueCounts(x, 1, 26, 0, 19, log, 3, 2, 1);
        x.run(400);
        dueCounts(x, 1, 426, 0, 19, log, 35, 2, 1);
        x.reset();
        dueCounts(x, 0, 0, 0, 0, 0, 0, 2, 1);
        x.boot();
        dueCounts(x, 1, 0, 0, 20, log, 1, 2, 2);
        int[] others = {-1, 8, 9, Integer.MIN_VALUE, Integer.MAX_VALUE};
        for (int what : others) {
            Check.due("count(" + what + ")", x.count(what), -1);
        }
        Check.done();
    }

    private static void dueCounts(SeparationMonitor x, int... dues) {
        for (int what = 0; what < dues.length; what++) {
            Check.due("count(" + what + ")", x.count(what), dues[what]);
        }
    }
}
