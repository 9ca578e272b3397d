/** Promise 4: policy. What each one does at a fault is in FaultTest. */
public final class Promise04PolicyTest {
    public static void main(String[] args) {
        SeparationMonitor x = new SeparationMonitor(1);
        x.policy(0, 2);
        x.policy(3, 1);
        Check.due("policy of 0", x.told(0, 6), 2);
        Check.due("policy of 1", x.told(1, 6), 0);
        Check.due("policy of 3", x.told(3, 6), 1);
        x.policy(0, 0);
        Check.due("policy of 0, anew", x.told(0, 6), 0);
        int[][] calls = {{-1, 0}, {4, 0}, {0, -1}, {0, 3}, {Integer.MAX_VALUE, 1}, {1, Integer.MIN_VALUE}};
        for (int[] c : calls) {
            Check.bad("policy(" + c[0] + ", " + c[1] + ")", () -> x.policy(c[0], c[1]));
        }
        x.window(0, 1);
        x.boot();
        Check.notNow("policy when booted", () -> x.policy(3, 2));
        Check.bad("bad policy when booted", () -> x.policy(3, 3));
        Check.due("policy of 3 when booted", x.told(3, 6), 1);
        x.reset();
        Check.due("policy of 3 after reset", x.told(3, 6), 1);
        x.policy(3, 2);
        Check.due("policy of 3, anew", x.told(3, 6), 2);
        Check.done();
    }
}
