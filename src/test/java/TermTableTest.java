/** The table of instructions; their addresses and calls have tests of their own. */
@Of("AN INSTRUCTION")
public final class TermTableTest {
    private static final int[] VALUES = {
        0, 1, -1, 2, 31, 32, 33, 2047, -2048, 0x12345678, 0x87654321, Rig.MIN, Rig.MIN + 1, Rig.MAX, Rig.MAX - 1,
    };
    private static final int[] IMMEDIATES = {0, 1, -1, 5, 31, 1024, 2047, -2048, -1025};

    public static void main(String[] args) {
        Tests.run(TermTableTest.class);
    }

    /** The register x3 after a word of o 19 on x1. */
    private static int withImmediate(int f, int a, int immediate) {
        SeparationMonitor x = Rig.done(Asm.liHigh(1, a), Asm.liLow(1, a), Asm.withImmediate(f, 3, 1, immediate));
        Check.due("faults of f " + f + " with " + immediate, x.told(0, 1), 0);
        Check.due("PC", x.register(0, Rig.PC), 12);
        return x.register(0, 3);
    }

    /** The register x3 after a word of o 51 on x1 and x2. */
    private static int withRegister(int g, int f, int a, int b) {
        SeparationMonitor x = Rig.done(Asm.liHigh(1, a), Asm.liLow(1, a), Asm.liHigh(2, b), Asm.liLow(2, b),
                Asm.withRegister(g, f, 3, 1, 2));
        Check.due("faults of f " + f + " g " + g, x.told(0, 1), 0);
        Check.due("PC", x.register(0, Rig.PC), 20);
        return x.register(0, 3);
    }

    private static boolean branches(int f, int a, int b) {
        SeparationMonitor x = Rig.done(Asm.liHigh(1, a), Asm.liLow(1, a), Asm.liHigh(2, b), Asm.liLow(2, b),
                Asm.branch(f, 1, 2, 40));
        int pc = x.register(0, Rig.PC);
        Check.isTrue("PC " + pc + " is 20 or 56", pc == 20 || pc == 56);
        return pc == 56;
    }

    /** What f is of a and b, in another way than the program's. */
    private static int wanted(int f, boolean other, int a, int b) {
        int by = b & 31;
        switch (f) {
            case 0:
                return other ? a - b : a + b;
            case 1:
                return (int) ((long) a << by);
            case 2:
                return Integer.compare(a, b) < 0 ? 1 : 0;
            case 3:
                return Integer.compareUnsigned(a, b) < 0 ? 1 : 0;
            case 4:
                return (a | b) & ~(a & b);
            case 5:
                return other ? (int) ((long) a >> by) : (int) (Integer.toUnsignedLong(a) >> by);
            case 6:
                return ~(~a & ~b);
            default:
                return ~(~a | ~b);
        }
    }

    @Says("23 AUIPC: rd = PC + U")
    static void auipcAtTheFirstAndTheLastWord() {
        Check.due("at 0", Rig.done(Asm.auipc(1, 0xFFFFF)).register(0, 1), -4096);
        SeparationMonitor x = Rig.booted(Rig.STOP, 32, Asm.jal(0, 124));
        x.reset();
        x.load(Rig.FIRST + 31, Asm.auipc(1, 0x7FFFF));
        x.boot();
        x.run(2);
        Check.due("at 124", x.register(0, 1), 0x7FFFF000 + 124);
    }

    @Says("111 JAL: rd = PC + 4, PC + J follows")
    static void jalToItselfGoesOnForEver() {
        SeparationMonitor x = Rig.booted(Rig.STOP, 2, Rig.NOTHING, Asm.jal(1, 0));
        Check.due("begun", x.run(100), 100);
        Check.due("PC", x.register(0, Rig.PC), 4);
        Check.due("x1", x.register(0, 1), 8);
    }

    @Says("103 JALR (f 0)")
    static void jalrWithAnotherFFaults() {
        for (int f = 0; f < 8; f++) {
            Rig.dueFault("f " + f, f == 0 ? 0 : 1, Asm.jalr(0, 0, 0) | f << 12);
        }
    }

    @Says("(rs1 + I) with bit 0 cleared follows")
    static void jalrClearsBit0OfTheSum() {
        int[][] dues = {
            {100, 0, 100}, {100, 1, 100}, {101, 0, 100}, {101, 1, 102}, {101, -1, 100}, {0, -1, -2}, {0, 3, 2},
            {1, -2048, -2048}, {-1, 0, -2}, {-1, 1, 0},
        };
        for (int[] due : dues) {
            SeparationMonitor x = Rig.done(Asm.addi(1, 0, due[0]), Asm.jalr(5, 1, due[1]));
            Check.due("JALR to " + due[0] + " + " + due[1], x.register(0, Rig.PC), due[2]);
            Check.due("rd", x.register(0, 5), 8);
        }
    }

    @Says("(rs1 + I) with bit 0 cleared follows")
    static void jalrWrapsAround() {
        int[][] dues = {{Rig.MAX, 1, Rig.MIN}, {Rig.MIN, -1, Rig.MAX - 1}, {Rig.MAX, 0, Rig.MAX - 1}};
        for (int[] due : dues) {
            SeparationMonitor x = Rig.done(Asm.liHigh(1, due[0]), Asm.liLow(1, due[0]), Asm.jalr(5, 1, due[1]));
            Check.due("JALR to " + due[0] + " + " + due[1], x.register(0, Rig.PC), due[2]);
        }
    }

    @Says("103 JALR (f 0): rd = PC + 4")
    static void jalrByTheRegisterThatItSets() {
        SeparationMonitor x = Rig.done(Asm.addi(1, 0, 100), Asm.jalr(1, 1, 4));
        Check.due("PC", x.register(0, Rig.PC), 104);
        Check.due("x1", x.register(0, 1), 8);
    }

    @Says("f 0 equal, 1 not equal")
    static void equalAndNotEqual() {
        for (int a : VALUES) {
            for (int b : VALUES) {
                Check.isTrue("f 0 of " + a + " and " + b, branches(0, a, b) == (a == b));
                Check.isTrue("f 1 of " + a + " and " + b, branches(1, a, b) == (a != b));
            }
        }
    }

    @Says("4 less, 5 not less")
    static void lessAndNotLess() {
        for (int a : VALUES) {
            for (int b : VALUES) {
                boolean less = Integer.compare(a, b) < 0;
                Check.isTrue("f 4 of " + a + " and " + b, branches(4, a, b) == less);
                Check.isTrue("f 5 of " + a + " and " + b, branches(5, a, b) != less);
            }
        }
    }

    @Says("6, 7 the same without sign")
    static void lessAndNotLessWithoutSign() {
        for (int a : VALUES) {
            for (int b : VALUES) {
                boolean less = Integer.compareUnsigned(a, b) < 0;
                Check.isTrue("f 6 of " + a + " and " + b, branches(6, a, b) == less);
                Check.isTrue("f 7 of " + a + " and " + b, branches(7, a, b) != less);
            }
        }
    }

    @Says("99: PC + B follows if rs1, rs2")
    static void branchesWithFOf2And3Fault() {
        for (int f = 0; f < 8; f++) {
            Rig.dueFault("f " + f, f == 2 || f == 3 ? 1 : 0, Asm.branch(f, 0, 0, 8));
        }
    }

    @Says("3, f 2: LW")
    static void loadsWithAnotherFFault() {
        for (int f = 0; f < 8; f++) {
            Rig.dueFault("f " + f, f == 2 ? 0 : 1, 3 | f << 12 | 1 << 7);
        }
    }

    @Says("35, f 2: SW")
    static void storesWithAnotherFFault() {
        for (int f = 0; f < 8; f++) {
            Rig.dueFault("f " + f, f == 2 ? 0 : 1, 35 | f << 12);
        }
    }

    @Says("19: rd = rs1 and I: f 0 sum")
    static void sumsWithImmediatesWrap() {
        for (int a : VALUES) {
            for (int i : IMMEDIATES) {
                Check.due(a + " + " + i, withImmediate(0, a, i), a + i);
            }
        }
        Check.due("the largest and 1", withImmediate(0, Rig.MAX, 1), Rig.MIN);
        Check.due("the least and -1", withImmediate(0, Rig.MIN, -1), Rig.MAX);
    }

    @Says("2 1 if less (else 0)")
    static void lessThanAnImmediate() {
        for (int a : VALUES) {
            for (int i : IMMEDIATES) {
                Check.due(a + " less than " + i, withImmediate(2, a, i), a < i ? 1 : 0);
            }
        }
        Check.due("equal", withImmediate(2, -2048, -2048), 0);
        Check.due("one below", withImmediate(2, -2049, -2048), 1);
    }

    @Says("3 less without sign")
    static void lessThanAnImmediateWithoutSign() {
        for (int a : VALUES) {
            for (int i : IMMEDIATES) {
                Check.due(a + " less than " + i, withImmediate(3, a, i), Integer.compareUnsigned(a, i) < 0 ? 1 : 0);
            }
        }
        Check.due("-1 is the largest, and not below itself", withImmediate(3, -1, -1), 0);
        Check.due("-2 is below it", withImmediate(3, -2, -1), 1);
        Check.due("nothing is below 0", withImmediate(3, -1, 0), 0);
    }

    @Says("4 XOR, 6 OR, 7 AND")
    static void xorOrAndOfImmediatesWithTheirSign() {
        int[] kinds = {4, 6, 7};
        for (int f : kinds) {
            for (int a : VALUES) {
                for (int i : IMMEDIATES) {
                    Check.due("f " + f + " of " + a + " and " + i, withImmediate(f, a, i), wanted(f, false, a, i));
                }
            }
        }
    }

    @Says("1 (g 0) shift left")
    static void leftBy0To31() {
        for (int a : VALUES) {
            for (int by = 0; by < 32; by++) {
                Check.due(a + " by " + by, withImmediate(1, a, by), (int) ((long) a << by));
            }
        }
    }

    @Says("1 (g 0) shift left")
    static void leftWithAnotherGFaults() {
        for (int g = 0; g < 128; g++) {
            Rig.dueFault("g " + g, g == 0 ? 0 : 1, Asm.withImmediate(1, 1, 1, g << 5 | 3));
        }
    }

    @Says("5 right (g 0 zeros, 32 sign), by bits 20-24")
    static void rightBy0To31() {
        for (int a : VALUES) {
            for (int by = 0; by < 32; by++) {
                Check.due(a + " by " + by + " with zeros", withImmediate(5, a, by),
                        (int) (Integer.toUnsignedLong(a) >> by));
                Check.due(a + " by " + by + " with sign", withImmediate(5, a, 1024 + by), (int) ((long) a >> by));
            }
        }
    }

    @Says("5 right (g 0 zeros, 32 sign), by bits 20-24")
    static void rightWithAnotherGFaults() {
        for (int g = 0; g < 128; g++) {
            Rig.dueFault("g " + g, g == 0 || g == 32 ? 0 : 1, Asm.withImmediate(5, 1, 1, g << 5 | 3));
        }
    }

    @Says("51: rd = rs1 and rs2: f 0 sum (g 32: difference)")
    static void sumsAndDifferencesWrap() {
        for (int a : VALUES) {
            for (int b : VALUES) {
                Check.due(a + " + " + b, withRegister(0, 0, a, b), a + b);
                Check.due(a + " - " + b, withRegister(32, 0, a, b), a - b);
            }
        }
        Check.due("the least less 1", withRegister(32, 0, Rig.MIN, 1), Rig.MAX);
        Check.due("0 less the least", withRegister(32, 0, 0, Rig.MIN), Rig.MIN);
    }

    @Says("1 shift left, 2, 3 as before, 4 XOR, 5 shift right (g 0, 32), 6 OR, 7 AND")
    static void allOthersOfTwoRegisters() {
        for (int a : VALUES) {
            for (int b : VALUES) {
                for (int f = 1; f < 8; f++) {
                    Check.due("f " + f + " of " + a + " and " + b, withRegister(0, f, a, b), wanted(f, false, a, b));
                }
                Check.due("f 5 g 32 of " + a + " and " + b, withRegister(32, 5, a, b), wanted(5, true, a, b));
            }
        }
    }

    @Says("by the lowest 5 bits of rs2")
    static void shiftsBy32AndMoreAndByNegativeNumbers() {
        int[][] dues = {{31, 31}, {32, 0}, {33, 1}, {63, 31}, {64, 0}, {-1, 31}, {-32, 0}, {-31, 1}, {Rig.MIN, 0}};
        int a = 0x87654321;
        for (int[] due : dues) {
            Check.due("left by " + due[0], withRegister(0, 1, a, due[0]), a << due[1]);
            Check.due("right by " + due[0], withRegister(0, 5, a, due[0]), a >>> due[1]);
            Check.due("right with sign by " + due[0], withRegister(32, 5, a, due[0]), a >> due[1]);
        }
    }

    @Says("g else 0")
    static void registersWithAnotherGFault() {
        for (int g = 0; g < 128; g++) {
            for (int f = 0; f < 8; f++) {
                boolean fine = g == 0 || g == 32 && (f == 0 || f == 5);
                Rig.dueFault("f " + f + " g " + g, fine ? 0 : 1, Asm.withRegister(g, f, 1, 1, 1));
            }
        }
    }

    @Says("51: rd = rs1 and rs2")
    static void rdMayBeRs1AndRs2() {
        SeparationMonitor x = Rig.done(Asm.addi(1, 0, 3), Asm.withRegister(0, 0, 1, 1, 1));
        Check.due("x1 + x1", x.register(0, 1), 6);
    }

    @Says("115: the WORD 115: CALL; 1048691: FAULT 4")
    static void onlyTwoWordsOf115AreKnown() {
        Rig.dueFault("the word 115", 0, Asm.CALL);
        Rig.dueFault("the word 1048691", 4, Asm.BREAK);
        for (int bit = 7; bit < 32; bit++) {
            Rig.dueFault("115 with bit " + bit, bit == 20 ? 4 : 1, Asm.CALL ^ 1 << bit);
            Rig.dueFault("1048691 with bit " + bit + " turned", bit == 20 ? 0 : 1, Asm.BREAK ^ 1 << bit);
        }
    }

    @Says("All else: FAULT 1")
    static void noOtherOIsKnown() {
        boolean[] known = new boolean[128];
        int[] opcodes = {55, 23, 111, 103, 99, 3, 35, 19, 51, 115};
        for (int o : opcodes) {
            known[o] = true;
        }
        for (int o = 0; o < 128; o++) {
            if (!known[o]) {
                Rig.dueFault("o " + o, 1, o);
                Rig.dueFault("o " + o + " with f 2", 1, o | 2 << 12);
            }
        }
        Rig.dueFault("the word 0", 1, 0);
        Rig.dueFault("the word -1", 1, -1);
        Rig.dueFault("the least word", 1, Rig.MIN);
    }

    @Says("All else: FAULT 1 (seen before FAULTS 2 and 3 of ADDRESSES and CALLS)")
    static void fault1ComesBeforeThoseOfAddresses() {
        Rig.dueFault("LW into x16 at 1", 1, Asm.lw(16, 0, 1));
        Rig.dueFault("LW into x16 at -4", 1, Asm.lw(16, 0, -4));
        Rig.dueFault("LW by x16 at 1", 1, Asm.lw(1, 16, 1));
        Rig.dueFault("SW of x16 at 1", 1, Asm.sw(16, 0, 1));
        Rig.dueFault("SW of x16 at -4", 1, Asm.sw(16, 0, -4));
        Rig.dueFault("a load with f 1 at 1", 1, Asm.lw(1, 0, 1) ^ 3 << 12);
        Rig.dueFault("a store with f 1 at -4", 1, Asm.sw(1, 0, -4) ^ 3 << 12);
    }

    @Says("All else: FAULT 1 (seen before FAULTS 2 and 3 of ADDRESSES and CALLS)")
    static void fault1ComesBeforeThatOfCalls() {
        Rig.dueFault("call 9 by the word 115", 3, Asm.addi(15, 0, 9), Asm.CALL);
        Rig.dueFault("call 9 by another word", 1, Asm.addi(15, 0, 9), Asm.CALL | 1 << 7);
    }

    @Says("PC + 4 follows, where nothing else is said")
    static void pc4FollowsAtTheRegionsLastWord() {
        SeparationMonitor x = Rig.booted(Rig.STOP, 1, Asm.addi(1, 0, 1));
        x.run(1);
        Check.due("PC", x.register(0, Rig.PC), 4);
        Check.due("faults", x.told(0, 1), 0);
    }

    @Says("PC + 4 follows, where nothing else is said")
    static void pc4FollowsABranchThatIsNotTakenAndACall() {
        SeparationMonitor x = Rig.done(Asm.branch(1, 0, 0, -4), Asm.addi(15, 0, Asm.MEASURE), Asm.CALL);
        Check.due("PC", x.register(0, Rig.PC), 12);
        Check.due("faults", x.told(0, 1), 0);
    }
}
