/** How long an object is used. */
@Of("What it is")
public final class WhatItIsTest {
    public static void main(String[] args) {
        Tests.run(WhatItIsTest.class);
    }

    @Says("An object is used for at most 512 calls after it has been made")
    static void the512thCallAnswersLikeOthers() {
        SeparationMonitor x = new SeparationMonitor(1);
        x.region(0, 95, 1);
        x.load(95, Rig.LOOP);
        x.window(0, 20);
        x.boot();
        for (int call = 5; call <= 511; call++) {
            x.run(400);
        }
        Check.due("the 512th call", x.told(0, 4), 507 * 400);
    }

    @Says("An object is used for at most 512 calls after it has been made")
    static void refusedCallsAreCallsToo() {
        SeparationMonitor x = new SeparationMonitor(1);
        for (int call = 1; call <= 511; call++) {
            Check.notNow("call " + call, Check.call(() -> x.run(1)));
        }
        Check.due("the 512th call", x.count(0), 0);
    }
}
