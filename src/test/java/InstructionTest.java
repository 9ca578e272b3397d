/** The table of instructions. */
public final class InstructionTest {
    private static final int[] VALUES = {
        0, 1, -1, 2, 31, 32, 33, 2047, -2048, 0x12345678, 0x87654321, Integer.MIN_VALUE, Integer.MAX_VALUE,
    };
    private static final int[] IMMEDIATES = {0, 1, -1, 5, 31, 1024, 2047, -2048, -1025};

    public static void main(String[] args) {
        wordsAreThoseOfRiscV();
        upperImmediates();
        sumsAndTheirLikeWithImmediates();
        sumsAndTheirLikeWithRegisters();
        branches();
        jumps();
        wordsOfTheRegion();
        x0StaysZero();
        unknownWordsFault();
        registersAbove15Fault();
        fieldsThatAreNotUsedDoNotFault();
        Check.done();
    }

    /** So that the tests' assembler and the program can't be wrong in the same way. */
    private static void wordsAreThoseOfRiscV() {
        Check.due("addi x10, x0, 5", Asm.addi(10, 0, 5), 0x00500513);
        Check.due("lui x1, 0x12345", Asm.lui(1, 0x12345), 0x123450B7);
        Check.due("auipc x1, 1", Asm.auipc(1, 1), 0x00001097);
        Check.due("jal x1, 8", Asm.jal(1, 8), 0x008000EF);
        Check.due("jal x0, -4", Asm.jal(0, -4), 0xFFDFF06F);
        Check.due("jal x0, 2048", Asm.jal(0, 2048), 0x0010006F);
        Check.due("jalr x0, 0(x1)", Asm.jalr(0, 1, 0), 0x00008067);
        Check.due("beq x0, x0, -4", Asm.branch(0, 0, 0, -4), 0xFE000EE3);
        Check.due("beq x1, x2, 2048", Asm.branch(0, 1, 2, 2048), 0x002080E3);
        Check.due("lw x5, -4(x2)", Asm.lw(5, 2, -4), 0xFFC12283);
        Check.due("sw x1, 4(x2)", Asm.sw(1, 2, 4), 0x00112223);
        Check.due("sw x1, -4(x2)", Asm.sw(1, 2, -4), 0xFE112E23);
        Check.due("sub x3, x4, x5", Asm.withRegister(32, 0, 3, 4, 5), 0x405201B3);
        Check.due("srai x3, x4, 7", Asm.withImmediate(5, 3, 4, 1024 + 7), 0x40725193);
    }

    private static void upperImmediates() {
        int[] uppers = {0, 1, 0x7FFFF, 0x80000, 0xFFFFF, 0x12345};
        for (int upper : uppers) {
            SeparationMonitor x = Rig.done(Asm.addi(2, 0, 1), Asm.lui(1, upper), Asm.auipc(2, upper));
            Check.due("LUI " + upper, x.register(0, 1), upper << 12);
            Check.due("AUIPC " + upper, x.register(0, 2), 8 + (upper << 12));
            Check.due("PC", x.register(0, 16), 12);
        }
    }

    private static int wanted(int f, boolean other, int a, int b) {
        int by = b & 31;
        switch (f) {
            case 0:
                return other ? a - b : a + b;
            case 1:
                return (int) ((long) a << by);
            case 2:
                return Integer.compare(a, b) < 0 ? 1 : 0;
            case 3:
                return Integer.compareUnsigned(a, b) < 0 ? 1 : 0;
            case 4:
                return (a | b) & ~(a & b);
            case 5:
                return other ? (int) ((long) a >> by) : (int) (Integer.toUnsignedLong(a) >> by);
            case 6:
                return ~(~a & ~b);
            default:
                return ~(~a | ~b);
        }
    }

    private static void sumsAndTheirLikeWithImmediates() {
        for (int a : VALUES) {
            int high = Asm.liHigh(1, a);
            int low = Asm.liLow(1, a);
            for (int f = 0; f < 8; f++) {
                boolean shift = f == 1 || f == 5;
                for (int i : IMMEDIATES) {
                    int immediate = shift ? i & 31 : i;
                    int got = Rig.done(high, low, Asm.withImmediate(f, 2, 1, immediate)).register(0, 2);
                    Check.due("f " + f + " of " + a + " and I " + immediate, got, wanted(f, false, a, immediate));
                }
            }
            for (int by = 0; by < 32; by++) {
                int got = Rig.done(high, low, Asm.withImmediate(5, 2, 1, 1024 + by)).register(0, 2);
                Check.due("shift with sign of " + a + " by " + by, got, wanted(5, true, a, by));
            }
        }
    }

    private static void sumsAndTheirLikeWithRegisters() {
        for (int a : VALUES) {
            for (int b : VALUES) {
                for (int f = 0; f < 8; f++) {
                    dueWithRegisters(0, f, a, b);
                }
                dueWithRegisters(32, 0, a, b);
                dueWithRegisters(32, 5, a, b);
            }
        }
        SeparationMonitor x = Rig.done(Asm.addi(1, 0, 3), Asm.withRegister(0, 0, 1, 1, 1));
        Check.due("x1 = x1 + x1", x.register(0, 1), 6);
    }

    private static void dueWithRegisters(int g, int f, int a, int b) {
        SeparationMonitor x = Rig.done(Asm.liHigh(1, a), Asm.liLow(1, a), Asm.liHigh(2, b), Asm.liLow(2, b),
                Asm.withRegister(g, f, 3, 1, 2));
        Check.due("f " + f + " g " + g + " of " + a + " and " + b, x.register(0, 3), wanted(f, g == 32, a, b));
        Check.due("PC", x.register(0, 16), 20);
    }

    private static boolean wantedBranch(int f, int a, int b) {
        int order = f < 6 ? Integer.compare(a, b) : Integer.compareUnsigned(a, b);
        if (f < 2) {
            return (order == 0) == (f == 0);
        }
        return (order < 0) == (f % 2 == 0);
    }

    private static void branches() {
        int[] kinds = {0, 1, 4, 5, 6, 7};
        for (int f : kinds) {
            for (int a : VALUES) {
                for (int b : VALUES) {
                    SeparationMonitor x = Rig.done(Asm.liHigh(1, a), Asm.liLow(1, a), Asm.liHigh(2, b),
                            Asm.liLow(2, b), Asm.branch(f, 1, 2, 40));
                    Check.due("branch " + f + " of " + a + " and " + b, x.register(0, 16),
                            wantedBranch(f, a, b) ? 56 : 20);
                }
            }
        }
        int[] offsets = {-4096, -2048, -2050, -16, -4, 0, 2, 4, 30, 32, 64, 1024, 2046, 2048, 4094};
        for (int offset : offsets) {
            SeparationMonitor x = Rig.done(0x13, 0x13, Asm.branch(0, 3, 4, offset));
            Check.due("branch by " + offset, x.register(0, 16), 8 + offset);
        }
    }

    private static void jumps() {
        int[] offsets = {-1048576, -2048, -4, 0, 2, 4, 2046, 2048, 4096, 0x55554, 0xAAAAA, 1048574};
        for (int offset : offsets) {
            SeparationMonitor x = Rig.done(0x13, Asm.jal(5, offset));
            Check.due("JAL by " + offset, x.register(0, 16), 4 + offset);
            Check.due("JAL leaves", x.register(0, 5), 8);
        }
        int[] immediates = {0, 1, 2, 3, 5, 2047, -1, -2048};
        for (int i : immediates) {
            SeparationMonitor x = Rig.done(Asm.addi(1, 0, 100), Asm.jalr(5, 1, i));
            Check.due("JALR by " + i, x.register(0, 16), (100 + i) / 2 * 2 - ((100 + i) < 0 && i % 2 != 0 ? 2 : 0));
            Check.due("JALR leaves", x.register(0, 5), 8);
        }
        SeparationMonitor x = Rig.done(Asm.addi(1, 0, 100), Asm.jalr(1, 1, 4));
        Check.due("JALR by the register that it leaves in", x.register(0, 16), 104);
        Check.due("JALR leaves", x.register(0, 1), 8);
        SeparationMonitor odd = Rig.done(Asm.addi(1, 0, 101), Asm.jalr(0, 1, 1));
        Check.due("JALR adds before it clears bit 0", odd.register(0, 16), 102);
    }

    private static void wordsOfTheRegion() {
        SeparationMonitor x = Rig.done(Asm.addi(1, 0, 60), Asm.addi(2, 0, -9), Asm.sw(2, 1, 64), Asm.sw(1, 1, -4),
                Asm.lw(3, 1, 64), Asm.lw(4, 0, 0), Asm.sw(1, 0, 0));
        Check.due("faults", x.told(0, 1), 0);
        Check.due("the region's last word", x.memory(Rig.FIRST + 31), -9);
        Check.due("a word below rs1", x.memory(Rig.FIRST + 14), 60);
        Check.due("x3", x.register(0, 3), -9);
        Check.due("x4", x.register(0, 4), Asm.addi(1, 0, 60));
        Check.due("the region's first word", x.memory(Rig.FIRST), 60);
        SeparationMonitor own = Rig.done(Asm.lw(1, 0, 16), Asm.sw(1, 0, 8), 0, Asm.addi(3, 0, 4), Asm.addi(2, 0, 7));
        Check.due("a program that writes itself", own.register(0, 2), 7);
        Check.due("faults", own.told(0, 1), 0);
    }

    private static void x0StaysZero() {
        int[] words = {
            Asm.lui(0, 5), Asm.auipc(0, 5), Asm.jal(0, 4), Asm.jalr(0, 1, 0), Asm.lw(0, 0, 0), Asm.addi(0, 0, 5),
            Asm.withRegister(0, 0, 0, 1, 1),
        };
        for (int word : words) {
            SeparationMonitor x = Rig.done(Asm.addi(1, 0, 8), word, Asm.withRegister(0, 0, 2, 0, 0));
            Check.due("faults", x.told(0, 1), 0);
            Check.due("x0", x.register(0, 0), 0);
            Check.due("x2", x.register(0, 2), 0);
        }
    }

    private static void unknownWordsFault() {
        boolean[] known = new boolean[128];
        int[] opcodes = {55, 23, 111, 103, 99, 3, 35, 19, 51, 115};
        for (int o : opcodes) {
            known[o] = true;
        }
        for (int o = 0; o < 128; o++) {
            if (!known[o]) {
                Rig.dueFault("o " + o, 1, o);
                Rig.dueFault("o " + o + " with f 2", 1, o | 2 << 12);
            }
        }
        for (int f = 1; f < 8; f++) {
            Rig.dueFault("JALR f " + f, 1, Asm.jalr(0, 0, 0) | f << 12);
        }
        Rig.dueFault("branch f 2", 1, Asm.branch(2, 0, 0, 8));
        Rig.dueFault("branch f 3", 1, Asm.branch(3, 0, 0, 8));
        int[] notWords = {0, 1, 3, 4, 5, 6, 7};
        for (int f : notWords) {
            Rig.dueFault("load f " + f, 1, 3 | f << 12);
            Rig.dueFault("store f " + f, 1, 35 | f << 12);
        }
        for (int g = 0; g < 128; g++) {
            Rig.dueFault("shift left g " + g, g == 0 ? 0 : 1, Asm.withImmediate(1, 1, 1, g << 5 | 3));
            Rig.dueFault("shift right g " + g, g == 0 || g == 32 ? 0 : 1, Asm.withImmediate(5, 1, 1, g << 5 | 3));
            for (int f = 0; f < 8; f++) {
                boolean fine = g == 0 || g == 32 && (f == 0 || f == 5);
                Rig.dueFault("o 51 f " + f + " g " + g, fine ? 0 : 1, Asm.withRegister(g, f, 1, 1, 1));
            }
        }
        int[] systems = {115 | 1 << 7, 115 | 1 << 12, 115 | 1 << 15, 115 | 2 << 20, 1048691 | 1 << 7, 115 | 1 << 31,
            1048691 | 1 << 15, 1048691 | 2 << 12};
        for (int word : systems) {
            Rig.dueFault("system word " + word, 1, word);
        }
        Rig.dueFault("the word 1048691", 4, Asm.BREAK);
        Rig.dueFault("the word 115", 0, Asm.CALL);
    }

    private static void registersAbove15Fault() {
        int[] high = {16, 17, 24, 31};
        for (int r : high) {
            int[] words = {
                Asm.lui(r, 1), Asm.auipc(r, 1), Asm.jal(r, 8), Asm.jalr(r, 0, 8), Asm.jalr(0, r, 8),
                Asm.branch(0, r, 0, 8), Asm.branch(1, 0, r, 8), Asm.lw(r, 0, 0), Asm.lw(1, r, 0), Asm.sw(r, 0, 0),
                Asm.sw(0, r, 0), Asm.addi(r, 0, 1), Asm.addi(1, r, 1), Asm.withImmediate(5, r, 0, 1),
                Asm.withRegister(0, 0, r, 0, 0), Asm.withRegister(0, 0, 0, r, 0), Asm.withRegister(0, 0, 0, 0, r),
            };
            for (int word : words) {
                Rig.dueFault("word " + word + " with register " + r, 1, word);
            }
        }
    }

    private static void fieldsThatAreNotUsedDoNotFault() {
        SeparationMonitor x = Rig.done(Asm.lui(15, 0xFFFFF), Asm.withImmediate(5, 1, 15, 31), Asm.addi(2, 0, -1),
                Asm.sw(2, 0, 124), Asm.branch(0, 0, 0, 30));
        Check.due("faults", x.told(0, 1), 0);
        Check.due("shift by 31", x.register(0, 1), 1);
        Check.due("I with high bits 20-24", x.register(0, 2), -1);
        Check.due("S with high bits 7-11", x.memory(Rig.FIRST + 31), -1);
        Check.due("B with high bits 7-11", x.register(0, 16), 46);
    }
}
