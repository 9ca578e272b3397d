/** Addresses of LW and SW, and of instructions. */
public final class AddressTest {
    public static void main(String[] args) {
        dataAddresses();
        unknownComesBeforeAddresses();
        aRegionIsAllThatCanBeReached();
        addressesOfInstructions();
        Check.done();
    }

    private static void dataAddresses() {
        // With a region of 32 words and no channels.
        int[][] dues = {
            {0, 0}, {4, 0}, {124, 0}, {128, 3}, {-4, 3}, {1, 2}, {2, 2}, {3, 2}, {125, 2}, {129, 2}, {-1, 2}, {-2, 2},
            {4092, 3}, {4096, 3}, {4108, 3}, {4112, 3}, {4097, 2}, {4094, 2},
            {Integer.MIN_VALUE, 3}, {Integer.MIN_VALUE + 4096, 3}, {Integer.MAX_VALUE, 2}, {Integer.MAX_VALUE - 3, 3},
        };
        for (int[] due : dues) {
            int high = Asm.liHigh(1, due[0]);
            int low = Asm.liLow(1, due[0]);
            Rig.dueFault("LW at " + due[0], due[1], high, low, Asm.lw(2, 1, 0));
            Rig.dueFault("SW at " + due[0], due[1], high, low, Asm.sw(2, 1, 0));
            dueAtChannels(due[0], Asm.lw(2, 1, 0), due[1]);
            dueAtChannels(due[0], Asm.sw(2, 1, 0), due[1]);
        }
        Rig.dueFault("an address that wraps", 0, Asm.addi(1, 0, -4), Asm.lw(2, 1, 8));
    }

    /** With all four channels open to the partition, addresses 4096 .. 4108 are fine, and no others. */
    private static void dueAtChannels(int address, int word, int without) {
        SeparationMonitor x = Rig.set(Rig.STOP, 32, Asm.liHigh(1, address), Asm.liLow(1, address), word);
        for (int c = 0; c < 4; c++) {
            x.channel(c, 0, 1, 1);
        }
        x.boot();
        x.run(3);
        boolean channel = address >= 4096 && address <= 4108 && address % 4 == 0;
        Check.due("word " + word + " at " + address + " with channels", x.told(0, 2), channel ? 0 : without);
    }

    private static void unknownComesBeforeAddresses() {
        Rig.dueFault("LW of an odd address into x16", 1, Asm.lw(16, 0, 1));
        Rig.dueFault("SW of x16 outside", 1, Asm.sw(16, 0, -4));
        Rig.dueFault("half a word at an odd address", 1, Asm.lw(1, 0, 1) ^ 3 << 12);
        Rig.dueFault("odd before outside", 2, Asm.lw(1, 0, -3));
    }

    private static void aRegionIsAllThatCanBeReached() {
        SeparationMonitor x = new SeparationMonitor(1);
        Rig.place(x, 0, 10, 4, Asm.lw(1, 0, 12), Asm.lw(2, 0, 16), Asm.sw(1, 0, 16), 1234);
        Rig.place(x, 1, 14, 2, 5678, 0);
        x.load(9, 999);
        x.policy(0, Rig.SKIP);
        x.window(0, 3);
        x.boot();
        x.run(3);
        Check.due("x1", x.register(0, 1), 1234);
        Check.due("x2", x.register(0, 2), 0);
        Check.due("faults", x.told(0, 1), 2);
        Check.due("kind", x.told(0, 2), 3);
        Check.due("the other's word", x.memory(14), 5678);
    }

    private static void addressesOfInstructions() {
        duePc("one past the end", 16, 3);
        duePc("below", -4, 3);
        duePc("far above", 4096, 3);
        duePc("in the region, not aligned", 6, 2);
        duePc("outside, not aligned", 4098, 2);
        duePc("below, not aligned", -2, 2);
        duePc("the last word", 12, 1);
    }

    /** Jumps from word 1 of 4; the words behind it are 0, which is unknown. */
    private static void duePc(String what, int pc, int kind) {
        SeparationMonitor x = Rig.booted(Rig.STOP, 4, Asm.addi(1, 0, 1), Asm.jal(2, pc - 4));
        x.run(2);
        Check.due(what + ": the jump itself does not fault", x.told(0, 1), 0);
        Check.due(what + ": PC", x.register(0, 16), pc);
        Check.due(what + ": begun", x.run(1), 1);
        Check.due(what + ": kind", x.told(0, 2), kind);
        Check.due(what + ": PC stays", x.register(0, 16), pc);
    }
}
