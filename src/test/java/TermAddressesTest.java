/** Addresses of LW and SW. */
@Of("ADDRESSES")
public final class TermAddressesTest {
    private static final int[] SIZES = {3, 4, 31, 32};

    public static void main(String[] args) {
        Tests.run(TermAddressesTest.class);
    }

    private static int[] program(int address, int word) {
        return Rig.joined(Rig.li(1, address), new int[] {word});
    }

    /** LW and SW at the address, by a partition that has so many words and no channel. */
    private static void due(int size, int address, int kind) {
        int[] words = {Asm.lw(2, 1, 0), Asm.sw(2, 1, 0)};
        for (int word : words) {
            String what = (word == words[0] ? "LW" : "SW") + " at " + address + " of " + size + " words";
            Rig.dueFault(what, kind, Rig.set(Rig.STOP, size, program(address, word)), 3);
        }
    }

    /** The same by one that is source and reader of all channels. */
    private static void dueWithChannels(int address, int kind) {
        int[] words = {Asm.lw(2, 1, 0), Asm.sw(2, 1, 0)};
        for (int word : words) {
            SeparationMonitor x = Rig.set(Rig.STOP, 32, program(address, word));
            for (int c = 0; c < 4; c++) {
                x.channel(c, 0, 1, 1);
            }
            Rig.dueFault((word == words[0] ? "LW" : "SW") + " at " + address + " with channels", kind, x, 3);
        }
    }

    @Says("not a multiple of 4: FAULT 2")
    static void inTheRegionNotAligned() {
        int[] addresses = {1, 2, 3, 5, 122, 123, 125, 126, 127};
        for (int address : addresses) {
            due(32, address, 2);
        }
    }

    @Says("not a multiple of 4: FAULT 2")
    static void notAlignedComesBeforeOutside() {
        int[] addresses = {-1, -2, -3, 129, 130, 131, 4093, 4097, 4098, 4099, 4109, 4113, Rig.MAX, Rig.MIN + 1};
        for (int address : addresses) {
            due(32, address, 2);
            dueWithChannels(address, 2);
        }
    }

    @Says("0 .. 4 * size - 4: the REGION")
    static void theFirstAndTheLastWordAreReachedAndTheirNeighboursNot() {
        for (int size : SIZES) {
            due(size, 0, 0);
            due(size, 4 * size - 4, 0);
            due(size, -4, 3);
            due(size, 4 * size, 3);
        }
    }

    @Says("0 .. 4 * size - 4: the REGION")
    static void aRegionOf1WordHasOneAddress() {
        int[][] dues = {{Asm.lw(1, 0, 0), 0}, {Asm.sw(1, 0, 0), 0}, {Asm.lw(1, 0, 4), 3}, {Asm.sw(1, 0, 4), 3},
            {Asm.lw(1, 0, -4), 3}};
        for (int[] due : dues) {
            Rig.dueFault("word " + due[0], due[1], Rig.set(Rig.STOP, 1, due[0]), 1);
        }
    }

    @Says("0 .. 4 * size - 4: the REGION")
    static void theWordsAreThoseOfTheRegion() {
        SeparationMonitor x = Rig.done(Asm.addi(1, 0, 60), Asm.addi(2, 0, -9), Asm.sw(2, 1, 64), Asm.sw(1, 1, -4),
                Asm.lw(3, 1, 64), Asm.lw(4, 0, 0), Asm.sw(1, 0, 0));
        Check.due("faults", x.told(0, 1), 0);
        Check.due("the last word", x.memory(Rig.FIRST + 31), -9);
        Check.due("the word at 56", x.memory(Rig.FIRST + 14), 60);
        Check.due("the last word read", x.register(0, 3), -9);
        Check.due("the first word read", x.register(0, 4), Asm.addi(1, 0, 60));
        Check.due("the first word", x.memory(Rig.FIRST), 60);
    }

    /** Between two others, whose words it can neither read nor write. */
    @Says("0 .. 4 * size - 4: the REGION")
    static void anothersWordsAreNotReached() {
        SeparationMonitor x = new SeparationMonitor(1);
        Rig.place(x, 0, 10, 6, Asm.lw(1, 0, 24), Asm.sw(1, 0, 24), Asm.lw(2, 0, -4), Asm.sw(2, 0, -4),
                Asm.lw(3, 0, 20), 1234);
        Rig.place(x, 1, 16, 1, 5678);
        Rig.place(x, 2, 9, 1, 8765);
        x.policy(0, Rig.SKIP);
        x.window(0, 5);
        x.boot();
        x.run(5);
        Check.due("faults", x.told(0, 1), 4);
        Check.due("the word behind, read", x.register(0, 1), 0);
        Check.due("the word before, read", x.register(0, 2), 0);
        Check.due("its own last word, read", x.register(0, 3), 1234);
        Check.due("the word behind", x.memory(16), 5678);
        Check.due("the word before", x.memory(9), 8765);
    }

    @Says("0 .. 4 * size - 4: the REGION")
    static void aSumThatWrapsIsAnAddressLikeOthers() {
        Rig.dueFault("LW at -4 + 8", 0, Asm.addi(1, 0, -4), Asm.lw(2, 1, 8));
        Rig.dueFault("SW at -4 + 4", 0, Asm.addi(1, 0, -4), Asm.sw(2, 1, 4));
        Rig.dueFault("LW at the largest + 1", 3, Asm.liHigh(1, Rig.MAX), Asm.liLow(1, Rig.MAX), Asm.lw(2, 1, 1));
        Rig.dueFault("LW at the least - 4", 3, Asm.liHigh(1, Rig.MIN), Asm.liLow(1, Rig.MIN), Asm.lw(2, 1, -4));
        Rig.dueFault("SW at the least - 1", 2, Asm.liHigh(1, Rig.MIN), Asm.liLow(1, Rig.MIN), Asm.sw(2, 1, -1));
    }

    @Says("4096 + 4 c, CHANNEL c")
    static void channelsAreAt4096To4108() {
        dueWithChannels(4092, 3);
        dueWithChannels(4096, 0);
        dueWithChannels(4100, 0);
        dueWithChannels(4104, 0);
        dueWithChannels(4108, 0);
        dueWithChannels(4112, 3);
    }

    @Says("4096 + 4 c, CHANNEL c")
    static void eachChannelHasItsAddress() {
        for (int c = 0; c < 4; c++) {
            SeparationMonitor x = Rig.set(Rig.STOP, 8, Asm.lui(1, 1), Asm.addi(2, 0, 40 + c), Asm.sw(2, 1, 4 * c),
                    Asm.lw(3, 1, 4 * c));
            x.channel(c, 0, 1, 1);
            x.boot();
            x.run(4);
            for (int d = 0; d < 4; d++) {
                Check.due("value of " + d + ", written " + c, x.object(d, 0), d == c ? 40 + c : 0);
                Check.due("hour of " + d + ", written " + c, x.object(d, 1), d == c ? 3 : -1);
            }
            Check.due("read from " + c, x.register(0, 3), 40 + c);
        }
    }

    /** Channel 1 with the source and readers given; partition 2 does the word at 4100. */
    private static SeparationMonitor ofPartition2(int source, int readers, int word) {
        SeparationMonitor x = new SeparationMonitor(1);
        Rig.place(x, 2, 30, 3, Asm.lui(1, 1), Asm.addi(2, 0, 5), word);
        x.channel(1, source, readers, 1);
        x.window(2, 3);
        x.boot();
        x.run(3);
        return x;
    }

    @Says("SW by its source")
    static void onlyTheSourceWrites() {
        for (int source = -1; source < 4; source++) {
            for (int readers = 0; readers < 16; readers++) {
                SeparationMonitor x = ofPartition2(source, readers, Asm.sw(2, 1, 4));
                String what = "source " + source + ", readers " + readers;
                Check.due(what + ": fault", x.told(2, 2), source == 2 ? 0 : 3);
                Check.due(what + ": value", x.object(1, 0), source == 2 ? 5 : 0);
                Check.due(what + ": hour", x.object(1, 1), source == 2 ? 3 : -1);
            }
        }
    }

    @Says("the value is its, and TIME its hour")
    static void onlyTheLatestValueIsKept() {
        SeparationMonitor x = Rig.set(Rig.STOP, 8, Asm.lui(1, 1), Asm.addi(3, 0, 7), Asm.sw(3, 1, 4), Asm.sw(1, 1, 4));
        x.channel(1, 0, 0, 1);
        x.boot();
        x.run(3);
        Check.due("value", x.object(1, 0), 7);
        Check.due("hour", x.object(1, 1), 3);
        x.run(1);
        Check.due("later value", x.object(1, 0), 4096);
        Check.due("later hour", x.object(1, 1), 4);
        x.run(10);
        Check.due("value, time gone on", x.object(1, 0), 4096);
        Check.due("hour, time gone on", x.object(1, 1), 4);
    }

    @Says("the value is its, and TIME its hour")
    static void a0ThatWasWrittenIsAValue() {
        SeparationMonitor x = Rig.set(Rig.STOP, 8, Asm.lui(1, 1), Asm.sw(0, 1, 4));
        x.channel(1, 0, 0, 1);
        x.boot();
        x.run(2);
        Check.due("value", x.object(1, 0), 0);
        Check.due("hour", x.object(1, 1), 2);
    }

    @Says("LW by a reader")
    static void onlyReadersRead() {
        for (int source = -1; source < 4; source++) {
            for (int readers = 0; readers < 16; readers++) {
                SeparationMonitor x = ofPartition2(source, readers, Asm.lw(2, 1, 4));
                boolean may = (readers & 4) != 0;
                String what = "source " + source + ", readers " + readers;
                Check.due(what + ": fault", x.told(2, 2), may ? 0 : 3);
                Check.due(what + ": x2", x.register(2, 2), may ? 0 : 5);
            }
        }
    }

    @Says("LW by a reader")
    static void aSourceThatIsNoReaderDoesNotRead() {
        SeparationMonitor x = Rig.set(Rig.STOP, 8, Asm.lui(1, 1), Asm.sw(1, 1, 0), Asm.lw(2, 1, 0));
        x.channel(0, 0, 14, 100);
        Rig.dueFault("LW by the source", 3, x, 3);
    }

    @Says("LW by a reader: the value, 0 if it's empty")
    static void anEmptyChannelReadsAs0() {
        SeparationMonitor x = Rig.set(Rig.STOP, 8, Asm.lui(1, 1), Asm.addi(3, 0, 7), Asm.lw(3, 1, 4));
        x.channel(1, -1, 1, 100);
        x.boot();
        x.run(3);
        Check.due("faults", x.told(0, 1), 0);
        Check.due("x3", x.register(0, 3), 0);
    }

    @Says("LW by a reader: the value")
    static void aValueIsReadHoweverOldItIs() {
        SeparationMonitor x = new SeparationMonitor(1);
        Rig.place(x, 0, 0, 3, Asm.lui(1, 1), Asm.sw(1, 1, 12), Rig.LOOP);
        Rig.place(x, 1, 10, 3, Asm.lui(1, 1), Asm.lw(2, 1, 12), Rig.LOOP);
        x.channel(3, 0, 2, 1);
        x.window(0, 20);
        x.window(1, 2);
        x.boot();
        x.run(22);
        Check.due("x2", x.register(1, 2), 4096);
        Check.due("faults", x.told(1, 1), 0);
    }

    @Says("All else: FAULT 3")
    static void farAddresses() {
        int[] addresses = {-8, 132, 2048, 4088, 4116, 8192, -4096, 1 << 30, Rig.MIN, Rig.MIN + 4096, Rig.MAX - 3};
        for (int address : addresses) {
            due(32, address, 3);
            dueWithChannels(address, 3);
        }
    }

    @Says("All else: FAULT 3")
    static void anLwIntoX0FaultsToo() {
        Rig.dueFault("LW x0 at -4", 3, Asm.lw(0, 0, -4));
        Rig.dueFault("LW x0 at 128", 3, Asm.lw(0, 0, 128));
        Rig.dueFault("LW x0 at 2", 2, Asm.lw(0, 0, 2));
    }
}
