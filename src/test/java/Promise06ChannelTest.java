/** channel. Who may write and read is in TermAddressesTest. */
@Of("Promise 6")
public final class Promise06ChannelTest {
    public static void main(String[] args) {
        Tests.run(Promise06ChannelTest.class);
    }

    private static void bad(int c, int source, int readers, int period) {
        SeparationMonitor x = new SeparationMonitor(1);
        Check.bad("channel(" + c + ", " + source + ", " + readers + ", " + period + ")",
                () -> x.channel(c, source, readers, period));
    }

    private static void taken(int c, int source, int readers, int period) {
        SeparationMonitor x = new SeparationMonitor(1);
        Check.fine("channel(" + c + ", " + source + ", " + readers + ", " + period + ")",
                () -> x.channel(c, source, readers, period));
    }

    @Says("CHANNEL c")
    static void channelsAre0To3() {
        bad(-1, 0, 0, 1);
        bad(4, 0, 0, 1);
        bad(Rig.MIN, 0, 0, 1);
        bad(Rig.MAX, 0, 0, 1);
        for (int c = 0; c < 4; c++) {
            taken(c, 0, 0, 1);
        }
    }

    @Says("source (-1 .. 3)")
    static void sourcesAreMinus1To3() {
        bad(0, -2, 0, 1);
        bad(0, 4, 0, 1);
        bad(0, Rig.MIN, 0, 1);
        bad(0, Rig.MAX, 0, 1);
        for (int source = -1; source < 4; source++) {
            taken(0, source, 0, 1);
        }
    }

    @Says("readers (0 .. 15)")
    static void readersAre0To15() {
        bad(0, 0, -1, 1);
        bad(0, 0, 16, 1);
        bad(0, 0, Rig.MIN, 1);
        bad(0, 0, Rig.MAX, 1);
        for (int readers = 0; readers < 16; readers++) {
            taken(0, 0, readers, 1);
        }
    }

    @Says("period")
    static void periodsAre1To100() {
        bad(0, 0, 0, 0);
        bad(0, 0, 0, -1);
        bad(0, 0, 0, 101);
        bad(0, 0, 0, Rig.MIN);
        bad(0, 0, 0, Rig.MAX);
        for (int period = 1; period <= 100; period++) {
            taken(0, 0, 0, period);
        }
    }

    /** Partition 0 writes 5 into channel 1 and reads it; partition 1 reads it, too. */
    private static SeparationMonitor reading() {
        SeparationMonitor x = new SeparationMonitor(1);
        Rig.place(x, 0, 0, 4, Asm.lui(1, 1), Asm.addi(2, 0, 5), Asm.sw(2, 1, 4), Asm.lw(3, 1, 4));
        Rig.place(x, 1, 10, 2, Asm.lui(1, 1), Asm.lw(3, 1, 4));
        x.policy(0, Rig.SKIP);
        x.policy(1, Rig.SKIP);
        x.window(0, 4);
        x.window(1, 2);
        return x;
    }

    private static void dueRead(SeparationMonitor x, int written, int by0, int by1) {
        x.boot();
        x.run(6);
        Check.due("written", x.object(1, 0), written);
        Check.due("read by 0", x.register(0, 3), by0);
        Check.due("read by 1", x.register(1, 3), by1);
        x.reset();
    }

    @Says("CHANNEL c: source (-1 .. 3), readers (0 .. 15), period")
    static void aChannelIsSetUpAnew() {
        SeparationMonitor x = reading();
        x.channel(1, 0, 3, 10);
        dueRead(x, 5, 5, 5);
        x.channel(1, 0, 2, 10);
        dueRead(x, 5, 0, 5);
        x.channel(1, 0, 1, 10);
        dueRead(x, 5, 5, 0);
        x.channel(1, -1, 15, 10);
        dueRead(x, 0, 0, 0);
        x.channel(1, 1, 15, 10);
        dueRead(x, 0, 0, 0);
    }

    @Says("CHANNEL c: source (-1 .. 3), readers (0 .. 15), period")
    static void aBadCallLeavesTheChannelAsItIs() {
        SeparationMonitor x = reading();
        x.channel(1, 0, 3, 10);
        Check.bad("a bad period", () -> x.channel(1, -1, 0, 0));
        Check.bad("bad readers", () -> x.channel(1, -1, 16, 1));
        Check.bad("a bad source", () -> x.channel(1, 4, 0, 1));
        dueRead(x, 5, 5, 5);
    }

    @Says("Not now if BOOTED")
    static void notNowIfBooted() {
        SeparationMonitor x = reading();
        x.channel(1, 0, 3, 10);
        x.boot();
        Check.notNow("channel when booted", () -> x.channel(1, -1, 0, 1));
        x.reset();
        dueRead(x, 5, 5, 5);
        Check.fine("channel after reset", () -> x.channel(1, -1, 0, 1));
        dueRead(x, 0, 0, 0);
    }
}
