/** policy. What each one does at a fault is in TermFaultTest. */
@Of("Promise 4")
public final class Promise04PolicyTest {
    public static void main(String[] args) {
        Tests.run(Promise04PolicyTest.class);
    }

    @Says("PARTITION p has the POLICY")
    static void eachPartitionHasItsOwn() {
        SeparationMonitor x = new SeparationMonitor(1);
        x.policy(0, 2);
        x.policy(3, 1);
        int[] dues = {2, 0, 0, 1};
        for (int p = 0; p < 4; p++) {
            Check.due("policy of " + p, x.told(p, 6), dues[p]);
        }
        x.policy(0, 0);
        Check.due("policy of 0, anew", x.told(0, 6), 0);
    }

    @Says("has the POLICY")
    static void policiesAre0To2() {
        SeparationMonitor x = new SeparationMonitor(1);
        x.policy(1, 1);
        int[] none = {-1, 3, Rig.MIN, Rig.MAX};
        for (int how : none) {
            Check.bad("policy(1, " + how + ")", () -> x.policy(1, how));
        }
        Check.due("policy of 1", x.told(1, 6), 1);
        for (int how = 0; how <= 2; how++) {
            x.policy(1, how);
            Check.due("policy of 1", x.told(1, 6), how);
        }
    }

    @Says("PARTITION p")
    static void partitionsAre0To3() {
        SeparationMonitor x = new SeparationMonitor(1);
        int[] none = {-1, 4, Rig.MIN, Rig.MAX};
        for (int p : none) {
            Check.bad("policy(" + p + ", 1)", () -> x.policy(p, 1));
        }
        for (int p = 0; p < 4; p++) {
            x.policy(p, 1);
            Check.due("policy of " + p, x.told(p, 6), 1);
        }
    }

    @Says("Not now if BOOTED")
    static void notNowIfBooted() {
        SeparationMonitor x = Rig.set(Rig.RESTART, 1, Rig.LOOP);
        x.boot();
        Check.notNow("policy when booted", () -> x.policy(0, 2));
        Check.due("policy when booted", x.told(0, 6), 1);
        x.reset();
        Check.due("policy after reset", x.told(0, 6), 1);
        Check.fine("policy after reset", () -> x.policy(0, 2));
        Check.due("policy, anew", x.told(0, 6), 2);
    }
}
