/** What each policy does when an instruction faults. */
public final class FaultTest {
    public static void main(String[] args) {
        stop();
        skip();
        skipGoesOnBehindTheRegion();
        restart();
        theFourthFaultOfARestarterStopsIt();
        aRestarterRestsInThisWindowOnly();
        nothingOfTheInstructionIsDone();
        onlyTheOneThatFaultsSuffers();
        Check.done();
    }

    private static void stop() {
        SeparationMonitor x = Rig.booted(Rig.STOP, 4, Asm.addi(1, 0, 5), Asm.sw(1, 0, 12), Asm.BREAK);
        Check.due("begun", x.run(100), 3);
        Check.due("ready", x.told(0, 0), 0);
        Check.due("faults", x.told(0, 1), 1);
        Check.due("kind", x.told(0, 2), 4);
        Check.due("restarts", x.told(0, 3), 0);
        Check.due("PC stays", x.register(0, 16), 8);
        Check.due("x1 stays", x.register(0, 1), 5);
        Check.due("memory stays", x.memory(Rig.FIRST + 3), 5);
        Check.due("time goes on", x.count(1), 100);
    }

    private static void skip() {
        SeparationMonitor x = Rig.booted(Rig.SKIP, 5, Asm.addi(1, 0, 5), Asm.BREAK, 0, Asm.addi(2, 1, 1), Asm.CALL);
        Check.due("begun", x.run(20), 5);
        Check.due("ready", x.told(0, 0), 1);
        Check.due("faults", x.told(0, 1), 2);
        Check.due("the latest kind", x.told(0, 2), 1);
        Check.due("x2", x.register(0, 2), 6);
        Check.due("restarts", x.told(0, 3), 0);
    }

    private static void skipGoesOnBehindTheRegion() {
        SeparationMonitor x = Rig.booted(Rig.SKIP, 1, Asm.jal(0, 2));
        Check.due("begun", x.run(10), 10);
        Check.due("faults", x.told(0, 1), 9);
        Check.due("kind", x.told(0, 2), 2);
        Check.due("PC", x.register(0, 16), 2 + 9 * 4);
    }

    private static SeparationMonitor restarter() {
        SeparationMonitor x = Rig.set(Rig.RESTART, 6, Asm.addi(1, 1, 5), Asm.sw(1, 0, 16), Asm.sw(1, 0, 0), Asm.BREAK,
                7, 8);
        x.load(Rig.FIRST + 6, 66);
        x.load(Rig.FIRST - 1, 55);
        return x;
    }

    private static void restart() {
        SeparationMonitor x = restarter();
        x.boot();
        x.run(3);
        Check.due("a word written", x.memory(Rig.FIRST + 4), 5);
        Check.due("the first word written", x.memory(Rig.FIRST), 5);
        Check.due("begun", x.run(17), 1);
        Check.due("the image again", x.memory(Rig.FIRST + 4), 7);
        Check.due("the image's first word again", x.memory(Rig.FIRST), Asm.addi(1, 1, 5));
        Check.due("a word behind", x.memory(Rig.FIRST + 6), 66);
        Check.due("a word before", x.memory(Rig.FIRST - 1), 55);
        Check.due("x1", x.register(0, 1), 0);
        Check.due("PC", x.register(0, 16), 0);
        int[] dues = {1, 1, 4, 1, 4};
        for (int what = 0; what < dues.length; what++) {
            Check.due("told(0, " + what + ")", x.told(0, what), dues[what]);
        }
    }

    private static void theFourthFaultOfARestarterStopsIt() {
        SeparationMonitor x = restarter();
        x.boot();
        for (int n = 1; n <= 3; n++) {
            Check.due("begun in window " + n, x.run(20), 4);
            Check.due("restarts", x.told(0, 3), n);
            Check.due("ready", x.told(0, 0), 1);
        }
        Check.due("begun in window 4", x.run(20), 4);
        int[] dues = {0, 4, 4, 3, 16};
        for (int what = 0; what < dues.length; what++) {
            Check.due("told(0, " + what + ")", x.told(0, what), dues[what]);
        }
        Check.due("PC stays", x.register(0, 16), 12);
        Check.due("x1 stays", x.register(0, 1), 5);
        Check.due("memory stays", x.memory(Rig.FIRST + 4), 5);
        Check.due("begun afterwards", x.run(400), 0);
    }

    private static void aRestarterRestsInThisWindowOnly() {
        SeparationMonitor x = new SeparationMonitor(1);
        Rig.place(x, 0, 0, 1, Asm.BREAK);
        x.policy(0, Rig.RESTART);
        x.window(0, 3);
        x.window(0, 1);
        x.boot();
        Check.due("a window of 3", x.run(3), 1);
        Check.due("a window of 1", x.run(1), 1);
        Check.due("a window of 3 again", x.run(3), 1);
        Check.due("restarts", x.told(0, 3), 3);
        Check.due("the fourth", x.run(1), 1);
        Check.due("ready", x.told(0, 0), 0);
    }

    private static void nothingOfTheInstructionIsDone() {
        SeparationMonitor x = Rig.booted(Rig.SKIP, 32, Asm.addi(1, 0, 5), Asm.addi(15, 0, 9), Asm.addi(10, 0, 4),
                Asm.lw(1, 0, 2), Asm.lw(1, 0, 128), Asm.CALL, Asm.jal(16, 100), Asm.jalr(1, 16, 0), Asm.sw(1, 0, 126));
        x.run(9);
        Check.due("faults", x.told(0, 1), 6);
        Check.due("x1", x.register(0, 1), 5);
        Check.due("x10", x.register(0, 10), 4);
        Check.due("PC", x.register(0, 16), 36);
        Check.due("last word", x.memory(Rig.FIRST + 31), 0);
    }

    private static void onlyTheOneThatFaultsSuffers() {
        SeparationMonitor x = new SeparationMonitor(1);
        Rig.place(x, 0, 0, 1, Asm.BREAK);
        Rig.place(x, 1, 1, 2, Asm.addi(1, 1, 1), Asm.jal(0, -4));
        x.policy(0, Rig.RESTART);
        x.window(1, 4);
        x.window(0, 4);
        x.boot();
        Check.due("begun", x.run(80), 44);
        Check.due("stopped", x.told(0, 0), 0);
        Check.due("ready", x.told(1, 0), 1);
        Check.due("faults", x.told(1, 1), 0);
        Check.due("x1", x.register(1, 1), 20);
    }
}
