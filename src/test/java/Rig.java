/** Monitors set up for a test. */
final class Rig {
    static final int KEY = 77;
    /** Not 0, so that an address that forgets the region's first word shows. */
    static final int FIRST = 8;
    static final int STOP = 0;
    static final int RESTART = 1;
    static final int SKIP = 2;

    private Rig() {
    }

    /** Not booted: partition 0 with the program in a region of size words; one window of 20. */
    static SeparationMonitor set(int how, int size, int... program) {
        SeparationMonitor x = new SeparationMonitor(KEY);
        place(x, 0, FIRST, size, program);
        x.policy(0, how);
        x.window(0, 20);
        return x;
    }

    static SeparationMonitor booted(int how, int size, int... program) {
        SeparationMonitor x = set(how, size, program);
        x.boot();
        return x;
    }

    /** All words of the program done once, in a region of 32 words. */
    static SeparationMonitor done(int... program) {
        SeparationMonitor x = booted(STOP, 32, program);
        x.run(program.length);
        return x;
    }

    static void place(SeparationMonitor x, int p, int first, int size, int... program) {
        x.region(p, first, size);
        for (int i = 0; i < program.length; i++) {
            x.load(first + i, program[i]);
        }
    }

    /** The program's last word faults with the kind (0: does not fault), and none before it does. */
    static void dueFault(String what, int kind, int... program) {
        SeparationMonitor x = booted(STOP, 32, program);
        if (program.length > 1) {
            x.run(program.length - 1);
        }
        Check.due(what + ": faults before", x.told(0, 1), 0);
        x.run(1);
        Check.due(what + ": kind", x.told(0, 2), kind);
        Check.due(what + ": faults", x.told(0, 1), kind == 0 ? 0 : 1);
        Check.due(what + ": ready", x.told(0, 0), kind == 0 ? 1 : 0);
    }
}
