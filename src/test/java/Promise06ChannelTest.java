/** Promise 6: channel. */
public final class Promise06ChannelTest {
    public static void main(String[] args) {
        numbersOutOfRangeAreBad();
        notNowIfBooted();
        onlyTheSourceWrites();
        onlyReadersRead();
        nobodyUsesAChannelAtFirst();
        anEmptyChannelReadsAsZero();
        onlyTheLatestValueIsKept();
        Check.done();
    }

    private static void numbersOutOfRangeAreBad() {
        SeparationMonitor x = new SeparationMonitor(1);
        int[][] calls = {
            {-1, 0, 0, 1}, {4, 0, 0, 1}, {0, -2, 0, 1}, {0, 4, 0, 1}, {0, 0, -1, 1}, {0, 0, 16, 1},
            {0, 0, 0, 0}, {0, 0, 0, 101}, {0, 0, 0, -1}, {0, 0, 0, Integer.MAX_VALUE},
            {Integer.MIN_VALUE, 0, 0, 1}, {0, Integer.MIN_VALUE, 0, 1}, {0, 0, Integer.MIN_VALUE, 1},
        };
        for (int[] c : calls) {
            Check.bad("channel(" + c[0] + ", " + c[1] + ", " + c[2] + ", " + c[3] + ")",
                    () -> x.channel(c[0], c[1], c[2], c[3]));
        }
        x.channel(0, -1, 0, 1);
        x.channel(3, 3, 15, 100);
    }

    private static void notNowIfBooted() {
        SeparationMonitor x = Rig.booted(Rig.STOP, 1);
        Check.notNow("channel when booted", () -> x.channel(0, 0, 0, 1));
        Check.bad("bad channel when booted", () -> x.channel(0, 0, 0, 0));
        x.reset();
        x.channel(0, 0, 0, 1);
    }

    private static SeparationMonitor withChannel(int c, int source, int readers, int... program) {
        SeparationMonitor x = Rig.set(Rig.STOP, 32, program);
        x.channel(c, source, readers, 100);
        x.boot();
        x.run(program.length);
        return x;
    }

    private static void onlyTheSourceWrites() {
        for (int c = 0; c < 4; c++) {
            int[] program = {Asm.lui(1, 1), Asm.addi(2, 0, 42 + c), Asm.sw(2, 1, 4 * c)};
            for (int source = -1; source < 4; source++) {
                SeparationMonitor x = withChannel(c, source, 15, program);
                String what = "channel " + c + " with source " + source;
                Check.due(what + ": fault", x.told(0, 2), source == 0 ? 0 : 3);
                Check.due(what + ": value", x.object(c, 0), source == 0 ? 42 + c : 0);
                Check.due(what + ": hour", x.object(c, 1), source == 0 ? 3 : -1);
                Check.due(what + ": another channel", x.object((c + 1) % 4, 1), -1);
            }
        }
    }

    private static void onlyReadersRead() {
        for (int c = 0; c < 4; c++) {
            int[] program = {Asm.lui(1, 1), Asm.addi(2, 0, 42), Asm.sw(2, 1, 4 * c), Asm.lw(3, 1, 4 * c)};
            for (int readers = 0; readers < 16; readers++) {
                SeparationMonitor x = withChannel(c, 0, readers, program);
                boolean may = readers % 2 == 1;
                String what = "channel " + c + " with readers " + readers;
                Check.due(what + ": fault", x.told(0, 2), may ? 0 : 3);
                Check.due(what + ": read", x.register(0, 3), may ? 42 : 0);
            }
        }
        for (int p = 0; p < 4; p++) {
            for (int readers = 0; readers < 16; readers++) {
                SeparationMonitor x = new SeparationMonitor(1);
                Rig.place(x, p, 20 * p, 2, Asm.lui(1, 1), Asm.lw(3, 1, 8));
                x.channel(2, -1, readers, 1);
                x.window(p, 2);
                x.boot();
                x.run(2);
                boolean may = (readers & 1 << p) != 0;
                Check.due("readers " + readers + ", partition " + p, x.told(p, 1), may ? 0 : 1);
            }
        }
    }

    private static void nobodyUsesAChannelAtFirst() {
        Rig.dueFault("LW at first", 3, Asm.lui(1, 1), Asm.lw(2, 1, 0));
        Rig.dueFault("SW at first", 3, Asm.lui(1, 1), Asm.sw(2, 1, 0));
    }

    private static void anEmptyChannelReadsAsZero() {
        SeparationMonitor x = withChannel(1, -1, 1, Asm.lui(1, 1), Asm.addi(3, 0, 7), Asm.lw(3, 1, 4));
        Check.due("fault", x.told(0, 1), 0);
        Check.due("read of an empty channel", x.register(0, 3), 0);
    }

    private static void onlyTheLatestValueIsKept() {
        SeparationMonitor x = withChannel(1, 0, 0, Asm.lui(1, 1), Asm.addi(3, 0, 7), Asm.sw(3, 1, 4), Asm.sw(1, 1, 4));
        Check.due("value", x.object(1, 0), 4096);
        Check.due("hour", x.object(1, 1), 4);
    }
}
