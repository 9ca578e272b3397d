/** What slots are at first, and how long they and the key last. */
@Of("SLOTS")
public final class TermSlotsTest {
    private static final int[] SEALS = {
        Asm.addi(15, 0, Asm.SEAL), Asm.addi(10, 0, 1), Asm.addi(11, 0, 9), Asm.CALL, Asm.BREAK,
    };

    public static void main(String[] args) {
        Tests.run(TermSlotsTest.class);
    }

    @Says("(0 and MARK 0 at first)")
    static void allSlotsAre0AtFirst() {
        SeparationMonitor x = Rig.set(Rig.STOP, 1, Rig.LOOP);
        for (int round = 0; round < 2; round++) {
            for (int s = 0; s < 4; s++) {
                Check.due("held by " + s, x.object(s, 2), 0);
                Check.due("mark of " + s, x.object(s, 3), 0);
            }
            if (round == 0) {
                x.boot();
            }
        }
    }

    @Says("(0 and MARK 0 at first)")
    static void aSlotThatWasNeverSealedDoesNotOpen() {
        for (int s = 0; s < 4; s++) {
            SeparationMonitor x = Rig.done(Asm.addi(15, 0, Asm.OPEN), Asm.addi(10, 0, s), Asm.addi(11, 0, 5), Asm.CALL);
            Check.due("x10", x.register(0, 10), 0);
            Check.due("x11 stays", x.register(0, 11), 5);
            Check.due("faults", x.told(0, 1), 0);
        }
    }

    /** A key for which H(H(KEY, v), MEASUREMENT) is 0 for v = 0 XOR H(KEY, MEASUREMENT), found by trying all. */
    @Says("(0 and MARK 0 at first)")
    static void aMarkOf0IsAMarkLikeOthers() {
        SeparationMonitor x = new SeparationMonitor(929032226);
        Rig.place(x, 0, 8, 4, Asm.addi(15, 0, Asm.OPEN), Asm.CALL);
        x.window(0, 2);
        x.boot();
        Check.due("measurement", x.told(0, 5), -265651655);
        x.run(2);
        Check.due("x10", x.register(0, 10), 1);
        Check.due("x11", x.register(0, 11), 1119851609);
    }

    private static SeparationMonitor sealed(int how) {
        SeparationMonitor x = Rig.booted(how, 6, SEALS);
        x.run(20);
        int m = x.told(0, 5);
        Check.due("held", x.object(1, 2), 9 ^ Asm.h(Rig.KEY, m));
        Check.due("mark", x.object(1, 3), Asm.h(Asm.h(Rig.KEY, 9), m));
        return x;
    }

    @Says("SLOTS (0 and MARK 0 at first) and THE KEY stay for ever")
    static void aSlotStaysOverResetsAndBoots() {
        SeparationMonitor x = sealed(Rig.STOP);
        int held = x.object(1, 2);
        int mark = x.object(1, 3);
        for (int n = 0; n < 3; n++) {
            x.reset();
            Check.due("held after reset", x.object(1, 2), held);
            Check.due("mark after reset", x.object(1, 3), mark);
            x.load(Rig.FIRST, Rig.NOTHING + (n + 1 << 20));
            x.boot();
            x.run(20);
            Check.due("held after boot", x.object(1, 2), held);
            Check.due("mark after boot", x.object(1, 3), mark);
        }
    }

    @Says("SLOTS (0 and MARK 0 at first) and THE KEY stay for ever")
    static void aSlotStaysOverTheRestartOfItsSealer() {
        SeparationMonitor x = sealed(Rig.RESTART);
        Check.due("restarts", x.told(0, 3), 1);
        Check.isTrue("it holds", x.object(1, 3) != 0);
    }

    @Says("THE KEY stay for ever")
    static void theKeyStaysOverResetsAndBoots() {
        SeparationMonitor x = Rig.booted(Rig.STOP, 2, Rig.LOOP);
        int quote = x.quote(4);
        Check.due("quote", quote, Asm.h(Asm.h(Rig.KEY, 4), x.count(4)));
        for (int n = 0; n < 3; n++) {
            x.run(30);
            x.reset();
            x.boot();
            Check.due("quote, booted again", x.quote(4), quote);
        }
    }
}
