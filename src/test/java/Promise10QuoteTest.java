/** quote. */
@Of("Promise 10")
public final class Promise10QuoteTest {
    public static void main(String[] args) {
        Tests.run(Promise10QuoteTest.class);
    }

    @Says("H(H(KEY, nonce), THE LOG)")
    static void anyIntMayBeTheNonce() {
        SeparationMonitor x = Rig.set(Rig.STOP, 3, 1, 2, 3);
        int log = x.boot();
        int[] nonces = {0, 1, -1, 123456789, Rig.MIN, Rig.MAX};
        for (int nonce : nonces) {
            int want = Asm.h(Asm.h(Rig.KEY, nonce), log);
            Check.due("quote(" + nonce + ")", x.quote(nonce), want);
            x.run(3);
            Check.due("quote(" + nonce + ") after a run", x.quote(nonce), want);
        }
    }

    @Says("H(H(KEY, nonce), THE LOG)")
    static void aLogOf0IsQuotedToo() {
        SeparationMonitor x = new SeparationMonitor(5);
        x.window(0, 1);
        x.boot();
        Check.due("quote(3)", x.quote(3), 1708854731);
    }

    @Says("THE LOG")
    static void anotherImageHasAnotherQuote() {
        SeparationMonitor x = Rig.set(Rig.STOP, 3, 1, 2, 3);
        int log = x.boot();
        x.reset();
        x.load(Rig.FIRST, 9);
        int anew = x.boot();
        Check.isTrue("another image has another log", anew != log);
        Check.due("quote(1)", x.quote(1), Asm.h(Asm.h(Rig.KEY, 1), anew));
    }

    @Says("Not now if it isn't BOOTED")
    static void notNowIfItIsNotBooted() {
        SeparationMonitor x = Rig.set(Rig.STOP, 3, 1, 2, 3);
        Check.notNow("quote before boot", Check.call(() -> x.quote(1)));
        x.boot();
        Check.fine("quote", Check.call(() -> x.quote(1)));
        x.reset();
        Check.notNow("quote after reset", Check.call(() -> x.quote(1)));
    }
}
