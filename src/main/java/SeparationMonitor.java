/**
 * A separation monitor: partitions of a small RISC-V machine, measured when it boots and run in
 * windows of time by turns. ../shared/DOC.md is the document that says what each call must do.
 */
public final class SeparationMonitor {
    private static final int WORDS = 96;
    private static final int PARTITIONS = 4;
    private static final int CHANNELS = 4;
    private static final int SLOTS = 4;
    private static final int REGISTERS = 16;
    private static final int MOST_REGION_WORDS = 32;
    private static final int MOST_WINDOWS = 6;
    private static final int MOST_WINDOW_TICKS = 20;
    private static final int MOST_PERIOD = 100;
    private static final int MOST_RUN_TICKS = 400;
    private static final int MOST_RESTARTS = 3;
    private static final int NOBODY = -1;

    private static final int STOP = 0;
    private static final int RESTART = 1;
    private static final int SKIP = 2;

    private static final int NO_FAULT = 0;
    private static final int FAULT_UNKNOWN = 1;
    private static final int FAULT_UNALIGNED = 2;
    private static final int FAULT_OUTSIDE = 3;
    private static final int FAULT_BREAK = 4;

    private final Machine machine;
    private final Timetable timetable;
    private boolean booted;
    private int boots;
    private int log;

    public SeparationMonitor(int key) {
        machine = new Machine(key);
        timetable = new Timetable();
        booted = false;
        boots = 0;
        log = 0;
    }

    public void region(int p, int first, int size)
            throws IllegalArgumentException, IllegalStateException, UnsupportedOperationException {
        refuseBadUnless(isPartition(p) && within(first, 0, WORDS - 1)
                && within(size, 0, MOST_REGION_WORDS) && first + size <= WORDS);
        refuseNowUnless(!booted);
        if (machine.overlapsAnother(p, first, size)) {
            throw new UnsupportedOperationException();
        }
        Partition partition = machine.partitions[p];
        partition.first = first;
        partition.size = size;
    }

    public void load(int i, int v) throws IllegalArgumentException, IllegalStateException {
        refuseBadUnless(isWord(i));
        refuseNowUnless(!booted);
        machine.words[i] = v;
    }

    public void policy(int p, int how) throws IllegalArgumentException, IllegalStateException {
        refuseBadUnless(isPartition(p) && within(how, STOP, SKIP));
        refuseNowUnless(!booted);
        machine.partitions[p].how = how;
    }

    public int window(int p, int length) throws IllegalArgumentException, IllegalStateException {
        refuseBadUnless(isPartition(p) && within(length, 1, MOST_WINDOW_TICKS));
        refuseNowUnless(!booted && timetable.size < MOST_WINDOWS);
        timetable.append(p, length);
        return timetable.size;
    }

    public void channel(int c, int source, int readers, int period)
            throws IllegalArgumentException, IllegalStateException {
        refuseBadUnless(isChannel(c) && within(source, NOBODY, PARTITIONS - 1)
                && within(readers, 0, (1 << PARTITIONS) - 1) && within(period, 1, MOST_PERIOD));
        refuseNowUnless(!booted);
        Channel channel = machine.channels[c];
        channel.source = source;
        channel.readers = readers;
        channel.period = period;
    }

    public int boot() throws IllegalStateException {
        refuseNowUnless(!booted && timetable.size > 0);
        log = machine.start();
        timetable.start();
        booted = true;
        boots++;
        return log;
    }

    public void reset() throws IllegalStateException {
        refuseNowUnless(booted);
        booted = false;
    }

    public int run(int n) throws IllegalArgumentException, IllegalStateException {
        refuseBadUnless(within(n, 1, MOST_RUN_TICKS));
        refuseNowUnless(booted);
        int begun = 0;
        for (int i = 0; i < n; i++) {
            if (tick()) {
                begun++;
            }
        }
        return begun;
    }

    public int quote(int nonce) throws IllegalStateException {
        refuseNowUnless(booted);
        return mix(mix(machine.key, nonce), log);
    }

    public int register(int p, int r) throws IllegalArgumentException, IllegalStateException {
        refuseBadUnless(isPartition(p) && within(r, 0, REGISTERS));
        refuseNowUnless(booted);
        Partition partition = machine.partitions[p];
        return r == REGISTERS ? partition.pc : partition.get(r);
    }

    public int memory(int i) throws IllegalArgumentException {
        refuseBadUnless(isWord(i));
        return machine.words[i];
    }

    public int told(int p, int what) throws IllegalArgumentException {
        refuseBadUnless(isPartition(p) && within(what, 0, 8));
        Partition partition = machine.partitions[p];
        switch (what) {
            case 6:
                return partition.how;
            case 7:
                return partition.first;
            case 8:
                return partition.size;
            default:
                return booted ? partition.sinceBooted(what) : 0;
        }
    }

    public int object(int c, int what) throws IllegalArgumentException {
        refuseBadUnless(isChannel(c) && within(what, 0, 3));
        switch (what) {
            case 0:
                return machine.channels[c].valueOrZero();
            case 1:
                return machine.channels[c].hourOrNone();
            case 2:
                return machine.slots[c].held;
            default:
                return machine.slots[c].mark;
        }
    }

    public int count(int what) {
        switch (what) {
            case 0:
                return booted ? 1 : 0;
            case 1:
                return booted ? machine.time : 0;
            case 2:
                return booted ? timetable.current : 0;
            case 3:
                return booted ? timetable.left : 0;
            case 4:
                return booted ? log : 0;
            case 5:
                return booted ? timetable.begun : 0;
            case 6:
                return timetable.size;
            case 7:
                return boots;
            default:
                return -1;
        }
    }

    /** Answers whether an instruction was begun in it. */
    private boolean tick() {
        machine.time++;
        Partition partition = machine.partitions[timetable.partitionNow()];
        boolean works = partition.ready && !partition.resting;
        if (works) {
            machine.step(partition);
        }
        if (timetable.endsWindow()) {
            machine.partitions[timetable.partitionNow()].resting = false;
        }
        return works;
    }

    /** The document's H. */
    private static int mix(int a, int b) {
        int h = (a * 31 + b) * -1640531535;
        return h ^ (h >>> 15);
    }

    private static boolean within(int n, int least, int most) {
        return n >= least && n <= most;
    }

    private static boolean isPartition(int p) {
        return within(p, 0, PARTITIONS - 1);
    }

    private static boolean isChannel(int c) {
        return within(c, 0, CHANNELS - 1);
    }

    private static boolean isWord(int i) {
        return within(i, 0, WORDS - 1);
    }

    private static void refuseBadUnless(boolean good) {
        if (!good) {
            throw new IllegalArgumentException();
        }
    }

    private static void refuseNowUnless(boolean rightTime) {
        if (!rightTime) {
            throw new IllegalStateException();
        }
    }

    /** The windows in their order, and which of them it is now. */
    private static final class Timetable {
        final int[] partitions;
        final int[] lengths;
        int size;
        int current;
        int left;
        int begun;

        Timetable() {
            partitions = new int[MOST_WINDOWS];
            lengths = new int[MOST_WINDOWS];
            size = 0;
            current = 0;
            left = 0;
            begun = 0;
        }

        void append(int p, int length) {
            if (size < MOST_WINDOWS) {
                partitions[size] = p;
                lengths[size] = length;
                size++;
            }
        }

        void start() {
            begun = 0;
            begin(0);
        }

        int partitionNow() {
            return partitions[current];
        }

        /** Spends one tick; answers whether another window has begun thereby. */
        boolean endsWindow() {
            left--;
            if (left > 0) {
                return false;
            }
            begin(current + 1 < size ? current + 1 : 0);
            return true;
        }

        private void begin(int w) {
            current = w;
            left = lengths[w];
            begun++;
        }
    }

    /** A channel keeps only the latest value, and the hour at which it came. */
    private static final class Channel {
        int source;
        int readers;
        int period;
        private boolean full;
        private int value;
        private int hour;

        Channel() {
            source = NOBODY;
            readers = 0;
            period = 1;
            full = false;
            value = 0;
            hour = 0;
        }

        void clear() {
            full = false;
        }

        void write(int v, int time) {
            full = true;
            value = v;
            hour = time;
        }

        int valueOrZero() {
            return full ? value : 0;
        }

        int hourOrNone() {
            return full ? hour : -1;
        }

        int age(int time) {
            return full && time - hour <= period ? time - hour : -1;
        }
    }

    /** What a slot holds outlives every boot. */
    private static final class Slot {
        int held;
        int mark;

        Slot() {
            held = 0;
            mark = 0;
        }
    }

    /** A partition: what was set up of it, and its state since it booted. */
    private static final class Partition {
        final int number;
        int first;
        int size;
        int how;
        int measurement;
        int pc;
        boolean ready;
        /** No more instructions in this window: it yielded, or was restarted. */
        boolean resting;
        private final int[] registers;
        private final int[] image;
        private int faults;
        private int latestFault;
        private int restarts;
        private int begun;

        Partition(int number) {
            this.number = number;
            first = 0;
            size = 0;
            how = STOP;
            measurement = 0;
            pc = 0;
            ready = false;
            resting = false;
            registers = new int[REGISTERS];
            image = new int[MOST_REGION_WORDS];
            faults = 0;
            latestFault = NO_FAULT;
            restarts = 0;
            begun = 0;
        }

        void start(int[] words) {
            ready = size > 0;
            resting = false;
            faults = 0;
            latestFault = NO_FAULT;
            restarts = 0;
            begun = 0;
            clearRegisters();
            System.arraycopy(words, first, image, 0, size);
            measurement = ready ? measured() : 0;
        }

        private int measured() {
            int m = mix(first, size);
            for (int i = 0; i < size; i++) {
                m = mix(m, image[i]);
            }
            return m;
        }

        private void clearRegisters() {
            pc = 0;
            for (int r = 0; r < REGISTERS; r++) {
                registers[r] = 0;
            }
        }

        boolean overlaps(int otherFirst, int otherSize) {
            return size > 0 && otherSize > 0
                    && first < otherFirst + otherSize && otherFirst < first + size;
        }

        boolean holds(int address) {
            return within(address, 0, 4 * size - 4);
        }

        int get(int r) {
            return r > 0 && r < REGISTERS ? registers[r] : 0;
        }

        /** A value for x0 is dropped, so that x0 stays 0. */
        void put(int r, int v) {
            if (r > 0 && r < REGISTERS) {
                registers[r] = v;
            }
        }

        void noteBegun() {
            begun++;
        }

        void suffer(int fault, int[] words) {
            faults++;
            latestFault = fault;
            if (how == SKIP) {
                pc += 4;
            } else if (how == RESTART && restarts < MOST_RESTARTS) {
                restart(words);
            } else {
                ready = false;
            }
        }

        private void restart(int[] words) {
            restarts++;
            System.arraycopy(image, 0, words, first, size);
            clearRegisters();
            resting = true;
        }

        int sinceBooted(int what) {
            switch (what) {
                case 0:
                    return ready ? 1 : 0;
                case 1:
                    return faults;
                case 2:
                    return latestFault;
                case 3:
                    return restarts;
                case 4:
                    return begun;
                default:
                    return measurement;
            }
        }
    }

    /** The parts of an instruction's word. */
    private static final class Code {
        static final int LUI = 55;
        static final int AUIPC = 23;
        static final int JAL = 111;
        static final int JALR = 103;
        static final int BRANCH = 99;
        static final int LW = 3;
        static final int SW = 35;
        static final int WITH_IMMEDIATE = 19;
        static final int WITH_REGISTER = 51;
        static final int SYSTEM = 115;

        static final int CALL_WORD = 115;
        static final int BREAK_WORD = 1048691;

        static final int SUM = 0;
        static final int SHIFT_LEFT = 1;
        static final int SHIFT_RIGHT = 5;
        /** The g that makes a sum a difference, and a right shift one that keeps the sign. */
        static final int OTHER = 32;

        private static final int WORD_SIZED = 2;

        private Code() {
        }

        static int o(int word) {
            return word & 127;
        }

        static int f(int word) {
            return word >>> 12 & 7;
        }

        static int g(int word) {
            return word >>> 25;
        }

        static int rd(int word) {
            return word >>> 7 & 31;
        }

        static int rs1(int word) {
            return word >>> 15 & 31;
        }

        static int rs2(int word) {
            return word >>> 20 & 31;
        }

        static int immediateI(int word) {
            return word >> 20;
        }

        static int immediateU(int word) {
            return word & ~4095;
        }

        static int immediateS(int word) {
            return (word >> 25) << 5 | (word >>> 7 & 31);
        }

        static int immediateB(int word) {
            return (word >> 31) << 12 | (word >>> 7 & 1) << 11
                    | (word >>> 25 & 63) << 5 | (word >>> 8 & 15) << 1;
        }

        static int immediateJ(int word) {
            return (word >> 31) << 20 | (word >>> 12 & 255) << 12
                    | (word >>> 20 & 1) << 11 | (word >>> 21 & 1023) << 1;
        }

        /** Whether the word is an instruction at all, with registers that there are. */
        static boolean isKnown(int word) {
            boolean rd = rd(word) < REGISTERS;
            boolean rs1 = rs1(word) < REGISTERS;
            boolean rs2 = rs2(word) < REGISTERS;
            switch (o(word)) {
                case LUI:
                case AUIPC:
                case JAL:
                    return rd;
                case JALR:
                    return f(word) == 0 && rd && rs1;
                case BRANCH:
                    return f(word) != 2 && f(word) != 3 && rs1 && rs2;
                case LW:
                    return f(word) == WORD_SIZED && rd && rs1;
                case SW:
                    return f(word) == WORD_SIZED && rs1 && rs2;
                case WITH_IMMEDIATE:
                    return rd && rs1 && isKnownWithImmediate(f(word), g(word));
                case WITH_REGISTER:
                    return rd && rs1 && rs2 && isKnownWithRegister(f(word), g(word));
                case SYSTEM:
                    return word == CALL_WORD || word == BREAK_WORD;
                default:
                    return false;
            }
        }

        /** Only shifts have a g: for all else its bits are the immediate's. */
        private static boolean isKnownWithImmediate(int f, int g) {
            if (f == SHIFT_LEFT) {
                return g == 0;
            }
            return f != SHIFT_RIGHT || g == 0 || g == OTHER;
        }

        private static boolean isKnownWithRegister(int f, int g) {
            return g == 0 || g == OTHER && (f == SUM || f == SHIFT_RIGHT);
        }
    }

    /** What instructions reckon, by their f. */
    private static final class Reckoner {
        private static final int TOP_BIT = 1 << 31;

        private Reckoner() {
        }

        static int combined(int f, boolean other, int a, int b) {
            switch (f) {
                case Code.SUM:
                    return other ? a - b : a + b;
                case Code.SHIFT_LEFT:
                    return a << (b & 31);
                case 2:
                    return a < b ? 1 : 0;
                case 3:
                    return lessWithoutSign(a, b) ? 1 : 0;
                case 4:
                    return a ^ b;
                case Code.SHIFT_RIGHT:
                    return other ? a >> (b & 31) : a >>> (b & 31);
                case 6:
                    return a | b;
                default:
                    return a & b;
            }
        }

        static boolean branches(int f, int a, int b) {
            switch (f) {
                case 0:
                    return a == b;
                case 1:
                    return a != b;
                case 4:
                    return a < b;
                case 5:
                    return a >= b;
                case 6:
                    return lessWithoutSign(a, b);
                default:
                    return !lessWithoutSign(a, b);
            }
        }

        /** With the top bits turned over, the order with sign is the one without. */
        private static boolean lessWithoutSign(int a, int b) {
            return (a ^ TOP_BIT) < (b ^ TOP_BIT);
        }
    }

    /** The machine: all that an instruction can reach, and how it is done. */
    private static final class Machine {
        private static final int CHANNEL_ADDRESS = 4096;
        private static final int ARGUMENT = 10;
        private static final int SECRET = 11;
        private static final int WHICH_CALL = 15;

        final int key;
        final int[] words;
        final Partition[] partitions;
        final Channel[] channels;
        final Slot[] slots;
        int time;
        /** The PC that follows if the instruction does not fault. */
        private int next;

        Machine(int key) {
            this.key = key;
            words = new int[WORDS];
            partitions = new Partition[PARTITIONS];
            for (int p = 0; p < PARTITIONS; p++) {
                partitions[p] = new Partition(p);
            }
            channels = new Channel[CHANNELS];
            for (int c = 0; c < CHANNELS; c++) {
                channels[c] = new Channel();
            }
            slots = new Slot[SLOTS];
            for (int s = 0; s < SLOTS; s++) {
                slots[s] = new Slot();
            }
            time = 0;
            next = 0;
        }

        boolean overlapsAnother(int p, int first, int size) {
            for (int q = 0; q < PARTITIONS; q++) {
                if (q != p && partitions[q].overlaps(first, size)) {
                    return true;
                }
            }
            return false;
        }

        /** Answers the log of what it measured. */
        int start() {
            time = 0;
            for (int c = 0; c < CHANNELS; c++) {
                channels[c].clear();
            }
            int measurements = 0;
            for (int p = 0; p < PARTITIONS; p++) {
                partitions[p].start(words);
                if (partitions[p].ready) {
                    measurements = mix(measurements, partitions[p].measurement);
                }
            }
            return measurements;
        }

        void step(Partition p) {
            p.noteBegun();
            next = p.pc + 4;
            int fault = fetchFault(p);
            if (fault == NO_FAULT) {
                fault = execute(p, words[p.first + p.pc / 4]);
            }
            if (fault == NO_FAULT) {
                p.pc = next;
            } else {
                p.suffer(fault, words);
            }
        }

        private static int fetchFault(Partition p) {
            if ((p.pc & 3) != 0) {
                return FAULT_UNALIGNED;
            }
            return p.holds(p.pc) ? NO_FAULT : FAULT_OUTSIDE;
        }

        /** Like all below that answer a fault: if it is one, nothing has been changed. */
        private int execute(Partition p, int word) {
            if (!Code.isKnown(word)) {
                return FAULT_UNKNOWN;
            }
            int rd = Code.rd(word);
            int f = Code.f(word);
            int a = p.get(Code.rs1(word));
            int b = p.get(Code.rs2(word));
            boolean other = Code.g(word) == Code.OTHER;
            switch (Code.o(word)) {
                case Code.LUI:
                    p.put(rd, Code.immediateU(word));
                    return NO_FAULT;
                case Code.AUIPC:
                    p.put(rd, p.pc + Code.immediateU(word));
                    return NO_FAULT;
                case Code.JAL:
                    return jump(p, rd, p.pc + Code.immediateJ(word));
                case Code.JALR:
                    return jump(p, rd, (a + Code.immediateI(word)) & ~1);
                case Code.BRANCH:
                    if (Reckoner.branches(f, a, b)) {
                        next = p.pc + Code.immediateB(word);
                    }
                    return NO_FAULT;
                case Code.LW:
                    return readInto(p, rd, a + Code.immediateI(word));
                case Code.SW:
                    return write(p, a + Code.immediateS(word), b);
                case Code.WITH_IMMEDIATE:
                    // A sum's g is part of its immediate: it must not make a difference of it.
                    p.put(rd, Reckoner.combined(f, other && f == Code.SHIFT_RIGHT, a,
                            Code.immediateI(word)));
                    return NO_FAULT;
                case Code.WITH_REGISTER:
                    p.put(rd, Reckoner.combined(f, other, a, b));
                    return NO_FAULT;
                default:
                    return word == Code.CALL_WORD ? serve(p) : FAULT_BREAK;
            }
        }

        private int jump(Partition p, int rd, int target) {
            p.put(rd, p.pc + 4);
            next = target;
            return NO_FAULT;
        }

        private int readInto(Partition p, int rd, int address) {
            if ((address & 3) != 0) {
                return FAULT_UNALIGNED;
            }
            if (p.holds(address)) {
                p.put(rd, words[p.first + address / 4]);
                return NO_FAULT;
            }
            int c = channelAt(address);
            if (!isReadable(c, p)) {
                return FAULT_OUTSIDE;
            }
            p.put(rd, channels[c].valueOrZero());
            return NO_FAULT;
        }

        private int write(Partition p, int address, int v) {
            if ((address & 3) != 0) {
                return FAULT_UNALIGNED;
            }
            if (p.holds(address)) {
                words[p.first + address / 4] = v;
                return NO_FAULT;
            }
            int c = channelAt(address);
            if (!isChannel(c) || channels[c].source != p.number) {
                return FAULT_OUTSIDE;
            }
            channels[c].write(v, time);
            return NO_FAULT;
        }

        /** The number of the channel at an aligned address; of no channel where none is. */
        private static int channelAt(int address) {
            return (address - CHANNEL_ADDRESS) / 4;
        }

        private boolean isReadable(int c, Partition p) {
            return c >= 0 && c < CHANNELS && (channels[c].readers >>> p.number & 1) == 1;
        }

        private int serve(Partition p) {
            switch (p.get(WHICH_CALL)) {
                case 0:
                    p.resting = true;
                    return NO_FAULT;
                case 1:
                    return tellAge(p, p.get(ARGUMENT));
                case 2:
                    return seal(p, p.get(ARGUMENT), p.get(SECRET));
                case 3:
                    return open(p, p.get(ARGUMENT));
                case 4:
                    p.put(ARGUMENT, p.measurement);
                    return NO_FAULT;
                default:
                    return FAULT_OUTSIDE;
            }
        }

        private int tellAge(Partition p, int c) {
            if (!isReadable(c, p)) {
                return FAULT_OUTSIDE;
            }
            p.put(ARGUMENT, channels[c].age(time));
            return NO_FAULT;
        }

        private int seal(Partition p, int s, int secret) {
            if (!within(s, 0, SLOTS - 1)) {
                return FAULT_OUTSIDE;
            }
            slots[s].held = secret ^ mix(key, p.measurement);
            slots[s].mark = mix(mix(key, secret), p.measurement);
            return NO_FAULT;
        }

        private int open(Partition p, int s) {
            if (!within(s, 0, SLOTS - 1)) {
                return FAULT_OUTSIDE;
            }
            int v = slots[s].held ^ mix(key, p.measurement);
            boolean opens = slots[s].mark == mix(mix(key, v), p.measurement);
            if (opens) {
                p.put(SECRET, v);
            }
            p.put(ARGUMENT, opens ? 1 : 0);
            return NO_FAULT;
        }
    }
}
