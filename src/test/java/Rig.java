/** Monitors set up for a test. */
final class Rig {
    static final int KEY = 77;
    /** Not 0, so that an address that forgets the region's first word shows. */
    static final int FIRST = 8;
    static final int STOP = 0;
    static final int RESTART = 1;
    static final int SKIP = 2;
    static final int PC = 16;
    static final int NOTHING = Asm.addi(0, 0, 0);
    /** Goes to itself for ever. */
    static final int LOOP = Asm.jal(0, 0);
    static final int MIN = Integer.MIN_VALUE;
    static final int MAX = Integer.MAX_VALUE;

    private Rig() {
    }

    /** Not booted: partition 0 with the program in a region of size words; one window of 20. */
    static SeparationMonitor set(int how, int size, int... program) {
        SeparationMonitor x = new SeparationMonitor(KEY);
        place(x, 0, FIRST, size, program);
        x.policy(0, how);
        x.window(0, 20);
        return x;
    }

    static SeparationMonitor booted(int how, int size, int... program) {
        SeparationMonitor x = set(how, size, program);
        x.boot();
        return x;
    }

    /** As many instructions of the program as it has words are done, in a region of 32 words. */
    static SeparationMonitor done(int... program) {
        SeparationMonitor x = booted(STOP, 32, program);
        x.run(program.length);
        return x;
    }

    static void place(SeparationMonitor x, int p, int first, int size, int... program) {
        x.region(p, first, size);
        for (int i = 0; i < program.length; i++) {
            x.load(first + i, program[i]);
        }
    }

    /** The program's last word faults with the kind (0: does not fault), and none before it does. */
    static void dueFault(String what, int kind, int... program) {
        dueFault(what, kind, set(STOP, 32, program), program.length);
    }

    /** The same of a monitor that is set up: the last of so many instructions of partition 0 faults. */
    static void dueFault(String what, int kind, SeparationMonitor x, int instructions) {
        x.boot();
        if (instructions > 1) {
            x.run(instructions - 1);
        }
        Check.due(what + ": faults before", x.told(0, 1), 0);
        x.run(1);
        Check.due(what + ": kind", x.told(0, 2), kind);
        Check.due(what + ": faults", x.told(0, 1), kind == 0 ? 0 : 1);
        Check.due(what + ": ready", x.told(0, 0), kind == 0 ? 1 : 0);
    }

    /** What told answers of partition p for what 0, 1, 2 .. */
    static void dueTold(SeparationMonitor x, int p, int... dues) {
        for (int what = 0; what < dues.length; what++) {
            Check.due("told(" + p + ", " + what + ")", x.told(p, what), dues[what]);
        }
    }

    static void dueCounts(SeparationMonitor x, int... dues) {
        for (int what = 0; what < dues.length; what++) {
            Check.due("count(" + what + ")", x.count(what), dues[what]);
        }
    }

    static void dueRegion(SeparationMonitor x, int p, int first, int size) {
        Check.due("first of " + p, x.told(p, 7), first);
        Check.due("size of " + p, x.told(p, 8), size);
    }

    /** The measurement that the words in memory now would have. */
    static int measured(SeparationMonitor x, int first, int size) {
        int m = Asm.h(first, size);
        for (int i = first; i < first + size; i++) {
            m = Asm.h(m, x.memory(i));
        }
        return m;
    }

    /** The answer to a CALL for the age of channel 0, made so many ticks after the channel was written. */
    static int ageAfter(int ticks, int period) {
        int rounds = (ticks - 1) / 2;
        int[] write = {Asm.lui(1, 1), Asm.addi(15, 0, Asm.AGE), Asm.addi(2, 0, rounds), Asm.sw(1, 1, 0)};
        int[] wait = rounds == 0 ? new int[0] : new int[] {Asm.addi(2, 2, -1), Asm.branch(1, 2, 0, -4)};
        int[] odd = ticks % 2 == 1 ? new int[0] : new int[] {NOTHING};
        SeparationMonitor x = set(STOP, 32, joined(write, wait, odd, new int[] {Asm.CALL}));
        x.channel(0, 0, 1, period);
        x.boot();
        x.run(4 + ticks);
        Check.due("the hour", x.object(0, 1), 4);
        Check.due("faults", x.told(0, 1), 0);
        Check.due("PC is behind the CALL", x.register(0, PC), 4 * (5 + wait.length + odd.length));
        return x.register(0, 10);
    }

    static int[] joined(int[]... parts) {
        int[] all = {};
        for (int[] part : parts) {
            int[] longer = java.util.Arrays.copyOf(all, all.length + part.length);
            System.arraycopy(part, 0, longer, all.length, part.length);
            all = longer;
        }
        return all;
    }

    /** The words that put v into rd. */
    static int[] li(int rd, int v) {
        return new int[] {Asm.liHigh(rd, v), Asm.liLow(rd, v)};
    }
}
