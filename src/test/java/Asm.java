/** Words of the RISC-V base set, and H as the document writes it. */
final class Asm {
    static final int CALL = 115;
    static final int BREAK = 1048691;

    static final int YIELD = 0;
    static final int AGE = 1;
    static final int SEAL = 2;
    static final int OPEN = 3;
    static final int MEASURE = 4;

    /** Where channel 0 is; the others follow by fours. It takes a LUI to get there. */
    static final int CHANNELS = 4096;

    private Asm() {
    }

    static int h(int a, int b) {
        long product = ((long) a * 31 + b) * -1640531535L;
        int low = (int) product;
        return low ^ (int) ((low & 0xFFFFFFFFL) >> 15);
    }

    static int lui(int rd, int upper) {
        return upper << 12 | rd << 7 | 0x37;
    }

    static int auipc(int rd, int upper) {
        return upper << 12 | rd << 7 | 0x17;
    }

    static int jal(int rd, int offset) {
        return bit(offset, 20) << 31 | bits(offset, 1, 10) << 21 | bit(offset, 11) << 20
                | bits(offset, 12, 8) << 12 | rd << 7 | 0x6F;
    }

    static int jalr(int rd, int rs1, int immediate) {
        return immediate << 20 | rs1 << 15 | rd << 7 | 0x67;
    }

    static int branch(int f, int rs1, int rs2, int offset) {
        return bit(offset, 12) << 31 | bits(offset, 5, 6) << 25 | rs2 << 20 | rs1 << 15 | f << 12
                | bits(offset, 1, 4) << 8 | bit(offset, 11) << 7 | 0x63;
    }

    static int lw(int rd, int rs1, int immediate) {
        return immediate << 20 | rs1 << 15 | 2 << 12 | rd << 7 | 0x03;
    }

    static int sw(int rs2, int rs1, int immediate) {
        return bits(immediate, 5, 7) << 25 | rs2 << 20 | rs1 << 15 | 2 << 12
                | bits(immediate, 0, 5) << 7 | 0x23;
    }

    static int withImmediate(int f, int rd, int rs1, int immediate) {
        return immediate << 20 | rs1 << 15 | f << 12 | rd << 7 | 0x13;
    }

    static int addi(int rd, int rs1, int immediate) {
        return withImmediate(0, rd, rs1, immediate);
    }

    static int withRegister(int g, int f, int rd, int rs1, int rs2) {
        return g << 25 | rs2 << 20 | rs1 << 15 | f << 12 | rd << 7 | 0x33;
    }

    /** The first of the two words that put v into rd. */
    static int liHigh(int rd, int v) {
        return lui(rd, (v + 0x800) >>> 12);
    }

    static int liLow(int rd, int v) {
        return addi(rd, rd, v & 0xFFF);
    }

    private static int bit(int n, int place) {
        return n >>> place & 1;
    }

    private static int bits(int n, int from, int many) {
        return n >>> from & (1 << many) - 1;
    }
}
