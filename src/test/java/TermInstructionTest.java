import java.util.Arrays;

/** Where an instruction is, its registers and its immediates. */
@Of("AN INSTRUCTION")
public final class TermInstructionTest {
    private static final int[] SIZES = {1, 2, 31, 32};

    public static void main(String[] args) {
        Tests.run(TermInstructionTest.class);
    }

    /** So that the tests' assembler and the program can't be wrong in the same way. */
    @Says("(as always in RISC-V)")
    static void theWordsOfTheTestsAreThoseOfRiscV() {
        Check.due("addi x10, x0, 5", Asm.addi(10, 0, 5), 0x00500513);
        Check.due("lui x1, 0x12345", Asm.lui(1, 0x12345), 0x123450B7);
        Check.due("auipc x1, 1", Asm.auipc(1, 1), 0x00001097);
        Check.due("jal x1, 8", Asm.jal(1, 8), 0x008000EF);
        Check.due("jal x0, -4", Asm.jal(0, -4), 0xFFDFF06F);
        Check.due("jal x0, 2048", Asm.jal(0, 2048), 0x0010006F);
        Check.due("jalr x0, 0(x1)", Asm.jalr(0, 1, 0), 0x00008067);
        Check.due("beq x0, x0, -4", Asm.branch(0, 0, 0, -4), 0xFE000EE3);
        Check.due("beq x1, x2, 2048", Asm.branch(0, 1, 2, 2048), 0x002080E3);
        Check.due("lw x5, -4(x2)", Asm.lw(5, 2, -4), 0xFFC12283);
        Check.due("sw x1, 4(x2)", Asm.sw(1, 2, 4), 0x00112223);
        Check.due("sw x1, -4(x2)", Asm.sw(1, 2, -4), 0xFE112E23);
        Check.due("sub x3, x4, x5", Asm.withRegister(32, 0, 3, 4, 5), 0x405201B3);
        Check.due("srai x3, x4, 7", Asm.withImmediate(5, 3, 4, 1024 + 7), 0x40725193);
    }

    @Says("is the WORD of the REGION at PC / 4")
    static void theWordOfARegionAtTheEndOfMemory() {
        SeparationMonitor x = new SeparationMonitor(1);
        Rig.place(x, 0, 95, 1, Asm.addi(1, 0, 7));
        x.load(0, Asm.addi(1, 0, 8));
        x.window(0, 1);
        x.boot();
        x.run(1);
        Check.due("x1", x.register(0, 1), 7);
        Check.due("faults", x.told(0, 1), 0);
    }

    @Says("is the WORD of the REGION at PC / 4")
    static void aWordThatTheProgramWroteIsDone() {
        SeparationMonitor x = Rig.done(Asm.lw(1, 0, 16), Asm.sw(1, 0, 8), 0, Asm.addi(3, 0, 4), Asm.addi(2, 0, 7));
        Check.due("x2", x.register(0, 2), 7);
        Check.due("faults", x.told(0, 1), 0);
    }

    /** The region is full of words that do nothing, and so is all memory behind it. */
    @Says("PC not 0 .. 4 * size - 4: FAULT 3")
    static void thePcMayGoToTheLastWordAndNotBehindIt() {
        for (int size : SIZES) {
            int[] words = new int[size];
            Arrays.fill(words, Rig.NOTHING);
            SeparationMonitor x = Rig.set(Rig.STOP, size, words);
            x.load(Rig.FIRST + size, Rig.NOTHING);
            x.boot();
            Check.due("begun in " + size + " words", x.run(size), size);
            Check.due("faults in " + size + " words", x.told(0, 1), 0);
            Check.due("PC behind " + size + " words", x.register(0, Rig.PC), 4 * size);
            Check.due("begun behind them", x.run(3), 1);
            Check.due("fault behind " + size + " words", x.told(0, 2), 3);
            Check.due("PC stays", x.register(0, Rig.PC), 4 * size);
        }
    }

    /** A jump from word 1 of 4 to the PC, then one tick more. */
    private static SeparationMonitor jumped(int how, int pc) {
        SeparationMonitor x = Rig.set(how, 4, Asm.liHigh(1, pc), Asm.liLow(1, pc), Asm.jalr(2, 1, 0), Rig.LOOP);
        x.load(Rig.FIRST - 1, Rig.LOOP);
        x.load(Rig.FIRST + 4, Rig.LOOP);
        x.boot();
        x.run(3);
        Check.due("the jump to " + pc + " does not fault", x.told(0, 1), 0);
        Check.due("PC", x.register(0, Rig.PC), pc);
        Check.due("begun at " + pc, x.run(1), 1);
        return x;
    }

    private static void duePc(int pc, int kind) {
        SeparationMonitor x = jumped(Rig.STOP, pc);
        Check.due("fault at " + pc, x.told(0, 2), kind);
        Check.due("instructions begun", x.told(0, 4), 4);
        if (kind != 0) {
            Check.due("PC stays", x.register(0, Rig.PC), pc);
        }
    }

    @Says("PC not 0 .. 4 * size - 4: FAULT 3")
    static void aPcBelow0Faults() {
        duePc(0, 0);
        duePc(-4, 3);
        duePc(-16, 3);
        duePc(Rig.MIN, 3);
        duePc(Rig.MIN + 4, 3);
    }

    @Says("PC not 0 .. 4 * size - 4: FAULT 3")
    static void aPcBehindTheRegionFaults() {
        duePc(12, 0);
        duePc(16, 3);
        duePc(20, 3);
        duePc(4096, 3);
        duePc(Rig.MAX - 3, 3);
        duePc(1 << 30, 3);
    }

    @Says("not a multiple of 4: FAULT 2 (before that)")
    static void aPcInTheRegionThatIsNotAlignedFaults() {
        duePc(2, 2);
        duePc(6, 2);
        duePc(10, 2);
    }

    @Says("not a multiple of 4: FAULT 2 (before that)")
    static void aPcOutsideThatIsNotAlignedFaultsWith2() {
        duePc(14, 2);
        duePc(18, 2);
        duePc(-2, 2);
        duePc(4098, 2);
        duePc(Rig.MAX - 1, 2);
        duePc(Rig.MIN + 2, 2);
    }

    @Says("x0 is always 0")
    static void whatIsPutIntoX0IsLost() {
        int[] words = {
            Asm.lui(0, 5), Asm.auipc(0, 5), Asm.jal(0, 4), Asm.jalr(0, 1, 0), Asm.lw(0, 0, 0), Asm.addi(0, 0, 5),
            Asm.withImmediate(1, 0, 1, 3), Asm.withRegister(0, 0, 0, 1, 1),
        };
        for (int word : words) {
            SeparationMonitor x = Rig.done(Asm.addi(1, 0, 8), word, Asm.withRegister(0, 0, 2, 0, 0), Asm.sw(0, 0, 124));
            Check.due("faults of word " + word, x.told(0, 1), 0);
            Check.due("x0 after word " + word, x.register(0, 0), 0);
            Check.due("x0 + x0 after word " + word, x.register(0, 2), 0);
            Check.due("x0 written after word " + word, x.memory(Rig.FIRST + 31), 0);
        }
    }

    /** Words of all forms with register r in one of their places. */
    private static int[] withRd(int r) {
        return new int[] {
            Asm.lui(r, 1), Asm.auipc(r, 1), Asm.jal(r, 8), Asm.jalr(r, 0, 8), Asm.lw(r, 0, 0), Asm.addi(r, 0, 1),
            Asm.withImmediate(1, r, 0, 1), Asm.withImmediate(5, r, 0, 1), Asm.withImmediate(5, r, 0, 1025),
            Asm.withImmediate(7, r, 0, 1), Asm.withRegister(0, 0, r, 0, 0), Asm.withRegister(32, 0, r, 0, 0),
            Asm.withRegister(32, 5, r, 0, 0), Asm.withRegister(0, 7, r, 0, 0),
        };
    }

    private static int[] withRs1(int r) {
        return new int[] {
            Asm.jalr(0, r, 8), Asm.branch(0, r, 0, 8), Asm.branch(7, r, 0, 8), Asm.lw(1, r, 0), Asm.sw(0, r, 0),
            Asm.addi(1, r, 1), Asm.withImmediate(1, 1, r, 1), Asm.withImmediate(5, 1, r, 1025),
            Asm.withRegister(0, 0, 0, r, 0), Asm.withRegister(32, 5, 0, r, 0),
        };
    }

    private static int[] withRs2(int r) {
        return new int[] {
            Asm.branch(1, 0, r, 8), Asm.branch(6, 0, r, 8), Asm.sw(r, 0, 0), Asm.withRegister(0, 0, 0, 0, r),
            Asm.withRegister(32, 0, 0, 0, r), Asm.withRegister(0, 1, 0, 0, r),
        };
    }

    private static void dueOf(String place, int r, int... words) {
        for (int word : words) {
            Rig.dueFault("word " + word + " with " + place + " " + r, r > 15 ? 1 : 0, word);
        }
    }

    @Says("above 15 where one is used: FAULT 1")
    static void rdMayBe15AndNot16() {
        for (int r = 14; r < 32; r++) {
            dueOf("rd", r, withRd(r));
        }
    }

    @Says("above 15 where one is used: FAULT 1")
    static void rs1MayBe15AndNot16() {
        for (int r = 14; r < 32; r++) {
            dueOf("rs1", r, withRs1(r));
        }
    }

    @Says("above 15 where one is used: FAULT 1")
    static void rs2MayBe15AndNot16() {
        for (int r = 14; r < 32; r++) {
            dueOf("rs2", r, withRs2(r));
        }
    }

    @Says("above 15 where one is used: FAULT 1")
    static void bitsThatAreOfAnImmediateMayBeAbove15() {
        SeparationMonitor x = Rig.done(Asm.lui(15, 0xFFFFF), Asm.withImmediate(5, 1, 15, 31), Asm.addi(2, 0, -1),
                Asm.sw(2, 0, 124), Asm.branch(0, 0, 0, 30));
        Check.due("faults", x.told(0, 1), 0);
        Check.due("shift by 31", x.register(0, 1), 1);
        Check.due("I with high bits 20-24", x.register(0, 2), -1);
        Check.due("S with high bits 7-11", x.memory(Rig.FIRST + 31), -1);
        Check.due("B with high bits 7-11", x.register(0, Rig.PC), 46);
        Rig.dueFault("JAL with high bits 15-24", 0, Asm.jal(1, 0xFF7FE));
    }

    @Says("I: bits 20-31 with sign")
    static void iGoesFromMinus2048To2047() {
        int[] numbers = {-2048, -2047, -1025, -1, 0, 1, 1023, 1024, 2046, 2047};
        for (int n : numbers) {
            Check.due("addi " + n, Rig.done(Asm.addi(1, 0, n)).register(0, 1), n);
            SeparationMonitor x = Rig.done(Asm.liHigh(1, 64 - n), Asm.liLow(1, 64 - n), Asm.lw(2, 1, n));
            Check.due("LW by " + n, x.told(0, 1), 0);
            Check.due("JALR by " + n, Rig.done(Asm.jalr(0, 0, n)).register(0, Rig.PC), n & ~1);
        }
    }

    @Says("U: the WORD with bits 0-11 being 0")
    static void uIsTheUpperBits() {
        int[] uppers = {0, 1, 0x12345, 0x7FFFF, 0x80000, 0xFFFFF};
        for (int upper : uppers) {
            SeparationMonitor x = Rig.done(Asm.lui(15, upper), Asm.auipc(15, upper));
            Check.due("AUIPC " + upper, x.register(0, 15), 4 + (upper << 12));
            Check.due("LUI " + upper, Rig.done(Asm.lui(15, upper)).register(0, 15), upper << 12);
        }
    }

    @Says("S: bits 25-31 with sign, then 7-11")
    static void sGoesFromMinus2048To2047() {
        int[] numbers = {-2048, -2047, -1025, -33, -32, -1, 0, 1, 31, 32, 1023, 1024, 2046, 2047};
        for (int n : numbers) {
            SeparationMonitor x = Rig.done(Asm.liHigh(1, 64 - n), Asm.liLow(1, 64 - n), Asm.addi(2, 0, 99),
                    Asm.sw(2, 1, n));
            Check.due("faults of SW by " + n, x.told(0, 1), 0);
            Check.due("SW by " + n, x.memory(Rig.FIRST + 16), 99);
        }
    }

    @Says("B: bit 31 (sign), 7, 30-25, 11-8, 0")
    static void bGoesFromMinus4096To4094() {
        int[] offsets = {-4096, -4094, -2050, -2048, -34, -32, -2, 0, 2, 16, 30, 32, 64, 1024, 2046, 2048, 4092, 4094};
        for (int offset : offsets) {
            SeparationMonitor x = Rig.done(Rig.NOTHING, Rig.NOTHING, Asm.branch(0, 3, 4, offset));
            Check.due("branch by " + offset, x.register(0, Rig.PC), 8 + offset);
        }
        for (int bit = 1; bit <= 11; bit++) {
            SeparationMonitor x = Rig.done(Asm.branch(0, 3, 4, 1 << bit));
            Check.due("branch by bit " + bit, x.register(0, Rig.PC), 1 << bit);
        }
    }

    @Says("J: bit 31 (sign), 19-12, 20, 30-21, 0")
    static void jGoesFromMinus1048576To1048574() {
        int[] offsets = {-1048576, -1048574, -524288, -2050, -2048, -4, -2, 0, 2, 4, 2046, 0x55554, 0xAAAAA, 1048572,
            1048574};
        for (int offset : offsets) {
            SeparationMonitor x = Rig.done(Rig.NOTHING, Asm.jal(5, offset));
            Check.due("JAL by " + offset, x.register(0, Rig.PC), 4 + offset);
        }
        for (int bit = 1; bit <= 19; bit++) {
            SeparationMonitor x = Rig.done(Asm.jal(5, 1 << bit));
            Check.due("JAL by bit " + bit, x.register(0, Rig.PC), 1 << bit);
        }
    }
}
