import java.util.ArrayList;
import java.util.List;

/**
 * A second writing of the document, for RandomCallsTest: as plain as can be, and made in another way
 * than the program (instructions by a table of masks, an instruction done on a copy of the registers).
 */
final class Model {
    private enum Op {
        LUI("U", 0x7F, 0x37), AUIPC("U", 0x7F, 0x17), JAL("J", 0x7F, 0x6F), JALR("I", 0x707F, 0x67),
        BEQ("B", 0x707F, 0x63), BNE("B", 0x707F, 0x1063), BLT("B", 0x707F, 0x4063), BGE("B", 0x707F, 0x5063),
        BLTU("B", 0x707F, 0x6063), BGEU("B", 0x707F, 0x7063), LW("I", 0x707F, 0x2003), SW("S", 0x707F, 0x2023),
        ADDI("I", 0x707F, 0x13), SLTI("I", 0x707F, 0x2013), SLTIU("I", 0x707F, 0x3013), XORI("I", 0x707F, 0x4013),
        ORI("I", 0x707F, 0x6013), ANDI("I", 0x707F, 0x7013), SLLI("I", 0xFE00707F, 0x1013),
        SRLI("I", 0xFE00707F, 0x5013), SRAI("I", 0xFE00707F, 0x40005013), ADD("R", 0xFE00707F, 0x33),
        SUB("R", 0xFE00707F, 0x40000033), SLL("R", 0xFE00707F, 0x1033), SLT("R", 0xFE00707F, 0x2033),
        SLTU("R", 0xFE00707F, 0x3033), XOR("R", 0xFE00707F, 0x4033), SRL("R", 0xFE00707F, 0x5033),
        SRA("R", 0xFE00707F, 0x40005033), OR("R", 0xFE00707F, 0x6033), AND("R", 0xFE00707F, 0x7033),
        ECALL("N", -1, 0x73), EBREAK("N", -1, 0x100073);

        final String form;
        final int mask;
        final int match;

        Op(String form, int mask, int match) {
            this.form = form;
            this.mask = mask;
            this.match = match;
        }
    }

    /** Thrown where the document leaves the answer free. */
    static final class Free extends RuntimeException {
        private static final long serialVersionUID = 1L;
    }

    /** Unwinds an instruction that faults; all that it did was on copies. */
    private static final class Fault extends Exception {
        private static final long serialVersionUID = 1L;
        final int kind;

        Fault(int kind) {
            this.kind = kind;
        }
    }

    private static final class Part {
        int first;
        int size;
        int policy;
        boolean ready;
        int[] x = new int[17];
        /** It had registers before it booted without words: the document does not say what became of them. */
        boolean hadRegisters;
        int[] image = {};
        int faults;
        int latest;
        int restarts;
        int begun;
        int measurement;
    }

    private final int key;
    private int[] words = new int[96];
    private final Part[] parts = {new Part(), new Part(), new Part(), new Part()};
    private final List<int[]> windows = new ArrayList<>();
    private final int[] source = {-1, -1, -1, -1};
    private final int[] readers = new int[4];
    private final int[] period = {1, 1, 1, 1};
    private final int[] value = new int[4];
    private final int[] hour = {-1, -1, -1, -1};
    private final int[] held = new int[4];
    private final int[] mark = new int[4];
    private boolean booted;
    private int boots;
    private int log;
    private int time;
    private boolean yielded;

    Model(int key) {
        this.key = key;
    }

    private static void check(boolean good, boolean now) {
        if (!good) {
            throw new IllegalArgumentException();
        }
        if (!now) {
            throw new IllegalStateException();
        }
    }

    private static boolean in(int n, int least, int most) {
        return least <= n && n <= most;
    }

    void region(int p, int first, int size) {
        check(in(p, 0, 3) && in(first, 0, 95) && in(size, 0, 32) && in(first + size, 0, 96), true);
        boolean overlaps = overlaps(p, first, size);
        if (booted && overlaps) {
            throw new Free();
        }
        check(true, !booted);
        if (overlaps) {
            throw new UnsupportedOperationException();
        }
        parts[p].first = first;
        parts[p].size = size;
    }

    private boolean overlaps(int p, int first, int size) {
        for (int q = 0; q < 4; q++) {
            for (int i = parts[q].first; q != p && i < parts[q].first + parts[q].size; i++) {
                if (in(i, first, first + size - 1)) {
                    return true;
                }
            }
        }
        return false;
    }

    void load(int i, int v) {
        check(in(i, 0, 95), !booted);
        words[i] = v;
    }

    void policy(int p, int how) {
        check(in(p, 0, 3) && in(how, 0, 2), !booted);
        parts[p].policy = how;
    }

    int window(int p, int length) {
        check(in(p, 0, 3) && in(length, 1, 20), !booted && windows.size() < 6);
        windows.add(new int[] {p, length});
        return windows.size();
    }

    void channel(int c, int from, int to, int atMost) {
        check(in(c, 0, 3) && in(from, -1, 3) && in(to, 0, 15) && in(atMost, 1, 100), !booted);
        source[c] = from;
        readers[c] = to;
        period[c] = atMost;
    }

    int boot() {
        check(true, !booted && !windows.isEmpty());
        booted = true;
        boots++;
        log = 0;
        time = 0;
        yielded = false;
        for (int k = 0; k < 4; k++) {
            value[k] = 0;
            hour[k] = -1;
            Part old = parts[k];
            Part part = new Part();
            part.first = old.first;
            part.size = old.size;
            part.policy = old.policy;
            part.hadRegisters = part.size == 0 && (old.image.length > 0 || old.hadRegisters);
            parts[k] = part;
            if (part.size == 0) {
                continue;
            }
            part.ready = true;
            part.image = new int[part.size];
            part.measurement = Asm.h(part.first, part.size);
            for (int i = 0; i < part.size; i++) {
                part.image[i] = words[part.first + i];
                part.measurement = Asm.h(part.measurement, part.image[i]);
            }
            log = Asm.h(log, part.measurement);
        }
        return log;
    }

    void reset() {
        check(true, booted);
        booted = false;
    }

    /** Which window it is at a time, how many ticks are left of it, and how many have begun. */
    private int[] windowAt(int at) {
        int begun = 0;
        int left = at;
        while (true) {
            int w = begun % windows.size();
            begun++;
            if (left < windows.get(w)[1]) {
                return new int[] {w, windows.get(w)[1] - left, begun};
            }
            left -= windows.get(w)[1];
        }
    }

    int run(int n) {
        check(in(n, 1, 400), booted);
        int begun = 0;
        for (int i = 0; i < n; i++) {
            int[] now = windowAt(time);
            int p = windows.get(now[0])[0];
            time++;
            if (parts[p].ready && !yielded) {
                begun++;
                instruction(p);
            }
            if (now[1] == 1) {
                yielded = false;
            }
        }
        return begun;
    }

    private void instruction(int p) {
        Part part = parts[p];
        int[] before = part.x.clone();
        part.begun++;
        try {
            part.x[16] = perform(p, part, part.x[16]);
            part.x[0] = 0;
        } catch (Fault fault) {
            part.x = before;
            part.faults++;
            part.latest = fault.kind;
            if (part.policy == 2) {
                part.x[16] += 4;
            } else if (part.policy == 0 || part.restarts == 3) {
                part.ready = false;
            } else {
                part.restarts++;
                part.x = new int[17];
                yielded = true;
                for (int i = 0; i < part.size; i++) {
                    words[part.first + i] = part.image[i];
                }
            }
        }
    }

    private static int place(Part part, int address) throws Fault {
        if (address % 4 != 0) {
            throw new Fault(2);
        }
        return in(address, 0, 4 * part.size - 4) ? part.first + address / 4 : -1;
    }

    /** The bits of the word at the places given, the highest first. */
    private static int gather(int word, int... places) {
        int bits = 0;
        for (int place : places) {
            bits = bits * 2 + (place < 0 ? 0 : word >>> place & 1);
        }
        return bits;
    }

    private static int signed(int bits, int many) {
        return bits << 32 - many >> 32 - many;
    }

    private static int immediate(String form, int word) {
        switch (form) {
            case "I":
                return signed(gather(word, 31, 30, 29, 28, 27, 26, 25, 24, 23, 22, 21, 20), 12);
            case "S":
                return signed(gather(word, 31, 30, 29, 28, 27, 26, 25, 11, 10, 9, 8, 7), 12);
            case "B":
                return signed(gather(word, 31, 7, 30, 29, 28, 27, 26, 25, 11, 10, 9, 8, -1), 13);
            case "J":
                return signed(gather(word, 31, 19, 18, 17, 16, 15, 14, 13, 12, 20, 30, 29, 28, 27, 26, 25, 24, 23, 22,
                        21, -1), 21);
            default:
                return word / 4096 * 4096 - (word < 0 && word % 4096 != 0 ? 4096 : 0);
        }
    }

    private static Op decoded(int word) throws Fault {
        for (Op op : Op.values()) {
            if ((word & op.mask) == op.match) {
                boolean rd = "UJIR".contains(op.form) && gather(word, 11) == 1;
                boolean rs1 = "IBSR".contains(op.form) && gather(word, 19) == 1;
                boolean rs2 = "BSR".contains(op.form) && gather(word, 24) == 1;
                if (rd || rs1 || rs2) {
                    throw new Fault(1);
                }
                return op;
            }
        }
        throw new Fault(1);
    }

    /** Answers the PC that follows. */
    private int perform(int p, Part part, int pc) throws Fault {
        int at = place(part, pc);
        if (at < 0) {
            throw new Fault(3);
        }
        int word = words[at];
        Op op = decoded(word);
        int[] x = part.x;
        int rd = gather(word, 10, 9, 8, 7);
        int a = x[gather(word, 18, 17, 16, 15)];
        int imm = immediate(op.form, word);
        int b = op.form.equals("I") ? imm : x[gather(word, 23, 22, 21, 20)];
        int by = b & 31;
        switch (op) {
            case LUI: x[rd] = imm; break;
            case AUIPC: x[rd] = pc + imm; break;
            case JAL: x[rd] = pc + 4; return pc + imm;
            case JALR: x[rd] = pc + 4; return a + imm - (a + imm & 1);
            case BEQ: return a == b ? pc + imm : pc + 4;
            case BNE: return a != b ? pc + imm : pc + 4;
            case BLT: return a < b ? pc + imm : pc + 4;
            case BGE: return a >= b ? pc + imm : pc + 4;
            case BLTU: return Integer.compareUnsigned(a, b) < 0 ? pc + imm : pc + 4;
            case BGEU: return Integer.compareUnsigned(a, b) >= 0 ? pc + imm : pc + 4;
            case LW: x[rd] = read(p, part, a + imm); break;
            case SW: write(p, part, a + imm, b); break;
            case ADDI: case ADD: x[rd] = a + b; break;
            case SUB: x[rd] = a - b; break;
            case SLTI: case SLT: x[rd] = a < b ? 1 : 0; break;
            case SLTIU: case SLTU: x[rd] = Integer.compareUnsigned(a, b) < 0 ? 1 : 0; break;
            case XORI: case XOR: x[rd] = a ^ b; break;
            case ORI: case OR: x[rd] = a | b; break;
            case ANDI: case AND: x[rd] = a & b; break;
            case SLLI: case SLL: x[rd] = a << by; break;
            case SRLI: case SRL: x[rd] = a >>> by; break;
            case SRAI: case SRA: x[rd] = a >> by; break;
            case ECALL: serve(p, part); break;
            default: throw new Fault(4);
        }
        return pc + 4;
    }

    private int read(int p, Part part, int address) throws Fault {
        int at = place(part, address);
        if (at >= 0) {
            return words[at];
        }
        for (int c = 0; c < 4; c++) {
            if (address == 4096 + 4 * c && gather(readers[c], p) == 1) {
                return value[c];
            }
        }
        throw new Fault(3);
    }

    private void write(int p, Part part, int address, int v) throws Fault {
        int at = place(part, address);
        if (at >= 0) {
            words[at] = v;
            return;
        }
        for (int c = 0; c < 4; c++) {
            if (address == 4096 + 4 * c && source[c] == p) {
                value[c] = v;
                hour[c] = time;
                return;
            }
        }
        throw new Fault(3);
    }

    private void serve(int p, Part part) throws Fault {
        int[] x = part.x;
        int call = x[15];
        int k = x[10];
        int m = part.measurement;
        if (!in(call, 0, 4) || in(call, 1, 3) && !in(k, 0, 3) || call == 1 && gather(readers[k], p) == 0) {
            throw new Fault(3);
        }
        if (call == 0) {
            yielded = true;
        } else if (call == 1) {
            x[10] = hour[k] == -1 || time - hour[k] > period[k] ? -1 : time - hour[k];
        } else if (call == 2) {
            held[k] = x[11] ^ Asm.h(key, m);
            mark[k] = Asm.h(Asm.h(key, x[11]), m);
        } else if (call == 3) {
            int v = held[k] ^ Asm.h(key, m);
            x[10] = mark[k] == Asm.h(Asm.h(key, v), m) ? 1 : 0;
            x[11] = x[10] == 1 ? v : x[11];
        } else {
            x[10] = m;
        }
    }

    int quote(int nonce) {
        check(true, booted);
        return Asm.h(Asm.h(key, nonce), log);
    }

    int register(int p, int r) {
        check(in(p, 0, 3) && in(r, 0, 16), booted);
        if (parts[p].hadRegisters) {
            throw new Free();
        }
        return parts[p].x[r];
    }

    int memory(int i) {
        check(in(i, 0, 95), true);
        return words[i];
    }

    int told(int p, int what) {
        check(in(p, 0, 3) && in(what, 0, 8), true);
        Part t = parts[p];
        int[] all = {t.ready ? 1 : 0, t.faults, t.latest, t.restarts, t.begun, t.measurement, t.policy, t.first,
            t.size};
        return what < 6 && !booted ? 0 : all[what];
    }

    int object(int c, int what) {
        check(in(c, 0, 3) && in(what, 0, 3), true);
        if (!booted && what < 2 && hour[c] != -1) {
            throw new Free();
        }
        int[][] all = {value, hour, held, mark};
        return all[what][c];
    }

    int count(int what) {
        if (!in(what, 0, 7)) {
            return -1;
        }
        int[] now = booted ? windowAt(time) : new int[3];
        int[] all = {booted ? 1 : 0, booted ? time : 0, now[0], now[1], booted ? log : 0, now[2], windows.size(),
            boots};
        return all[what];
    }
}
