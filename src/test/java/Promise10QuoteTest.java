/** Promise 10: quote. */
public final class Promise10QuoteTest {
    public static void main(String[] args) {
        SeparationMonitor x = Rig.set(Rig.STOP, 3, 1, 2, 3);
        Check.notNow("quote before boot", Check.call(() -> x.quote(1)));
        int log = x.boot();
        int[] nonces = {0, 1, -1, 123456789, Integer.MIN_VALUE, Integer.MAX_VALUE};
        for (int nonce : nonces) {
            int want = Asm.h(Asm.h(Rig.KEY, nonce), log);
            Check.due("quote(" + nonce + ")", x.quote(nonce), want);
            x.run(3);
            Check.due("quote(" + nonce + ") after a run", x.quote(nonce), want);
        }
        x.reset();
        Check.notNow("quote after reset", Check.call(() -> x.quote(1)));
        x.load(Rig.FIRST, 9);
        int anew = x.boot();
        Check.isTrue("another image has another log", anew != log);
        Check.due("quote of another image", x.quote(1), Asm.h(Asm.h(Rig.KEY, 1), anew));
        Check.done();
    }
}
