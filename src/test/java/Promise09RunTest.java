/** Promise 9: run, and what RUNNING says of windows. Instructions, faults and calls have tests of their own. */
public final class Promise09RunTest {
    private static final int LOOP = Asm.jal(0, 0);

    public static void main(String[] args) {
        numbersOutOfRangeAreBad();
        notNowIfNotBooted();
        ticksAreInstructions();
        partitionsTakeTurns();
        aYieldLastsUntilTheWindowEnds();
        aWindowThatFollowsItselfEndsAYield();
        instructionsThatFaultAreCounted();
        Check.done();
    }

    private static void numbersOutOfRangeAreBad() {
        SeparationMonitor x = Rig.booted(Rig.STOP, 1, LOOP);
        int[] numbers = {0, -1, 401, Integer.MIN_VALUE, Integer.MAX_VALUE};
        for (int n : numbers) {
            Check.bad("run(" + n + ")", Check.call(() -> x.run(n)));
        }
        Check.due("time", x.count(1), 0);
        Check.due("run(1)", x.run(1), 1);
        Check.due("run(400)", x.run(400), 400);
        Check.due("time", x.count(1), 401);
    }

    private static void notNowIfNotBooted() {
        SeparationMonitor x = Rig.set(Rig.STOP, 1, LOOP);
        Check.notNow("run before boot", Check.call(() -> x.run(1)));
        Check.bad("bad run before boot", Check.call(() -> x.run(0)));
        x.boot();
        x.reset();
        Check.notNow("run after reset", Check.call(() -> x.run(1)));
    }

    private static void ticksAreInstructions() {
        SeparationMonitor x = Rig.booted(Rig.STOP, 3, Asm.addi(1, 1, 1), Asm.addi(2, 2, 1), Asm.jal(0, -8));
        for (int t = 1; t <= 50; t++) {
            Check.due("run(1)", x.run(1), 1);
            Check.due("x1 at " + t, x.register(0, 1), (t + 2) / 3);
            Check.due("x2 at " + t, x.register(0, 2), (t + 1) / 3);
            Check.due("begun at " + t, x.told(0, 4), t);
            Check.due("time at " + t, x.count(1), t);
        }
    }

    private static void partitionsTakeTurns() {
        SeparationMonitor x = new SeparationMonitor(1);
        Rig.place(x, 0, 40, 2, Asm.addi(1, 1, 1), Asm.jal(0, -4));
        Rig.place(x, 3, 10, 2, Asm.addi(1, 1, 1), Asm.jal(0, -4));
        x.window(3, 4);
        x.window(1, 3);
        x.window(0, 2);
        x.boot();
        Check.due("run(5)", x.run(5), 4);
        Check.due("begun by 3", x.told(3, 4), 4);
        Check.due("begun by 0", x.told(0, 4), 0);
        Check.due("run(3)", x.run(3), 1);
        Check.due("begun by 0", x.told(0, 4), 1);
        Check.due("run(1)", x.run(1), 1);
        Check.due("window", x.count(2), 0);
        Check.due("run(9)", x.run(9), 6);
        Check.due("begun by 3", x.told(3, 4), 8);
        Check.due("begun by 0", x.told(0, 4), 4);
        Check.due("begun by 1", x.told(1, 4), 0);
        Check.due("x1 of 3", x.register(3, 1), 4);
        Check.due("x1 of 0", x.register(0, 1), 2);
        Check.due("windows begun", x.count(5), 7);
    }

    private static void aYieldLastsUntilTheWindowEnds() {
        SeparationMonitor x = new SeparationMonitor(1);
        Rig.place(x, 0, 40, 3, Asm.addi(1, 1, 1), Asm.CALL, Asm.jal(0, -8));
        Rig.place(x, 1, 10, 1, LOOP);
        x.window(0, 6);
        x.window(1, 4);
        x.boot();
        Check.due("first window", x.run(6), 2);
        Check.due("the other's window", x.run(4), 4);
        Check.due("next window", x.run(6), 3);
        Check.due("x1", x.register(0, 1), 2);
        Check.due("ready all the time", x.told(0, 0), 1);
        Check.due("PC", x.register(0, 16), 8);
    }

    private static void aWindowThatFollowsItselfEndsAYield() {
        SeparationMonitor x = new SeparationMonitor(1);
        Rig.place(x, 0, 40, 2, Asm.CALL, Asm.jal(0, -4));
        x.window(0, 3);
        x.window(0, 1);
        x.boot();
        Check.due("first window", x.run(3), 1);
        Check.due("second window", x.run(1), 1);
        Check.due("first window again", x.run(3), 1);
        Check.due("PC", x.register(0, 16), 4);
        SeparationMonitor y = new SeparationMonitor(1);
        Rig.place(y, 0, 40, 2, Asm.CALL, Asm.jal(0, -4));
        y.window(0, 3);
        y.boot();
        Check.due("the only window, three times", y.run(9), 5);
    }

    private static void instructionsThatFaultAreCounted() {
        SeparationMonitor x = Rig.booted(Rig.SKIP, 1, Asm.BREAK);
        Check.due("run(7)", x.run(7), 7);
        Check.due("begun", x.told(0, 4), 7);
        SeparationMonitor y = Rig.booted(Rig.STOP, 1, Asm.BREAK);
        Check.due("run(7)", y.run(7), 1);
        Check.due("begun", y.told(0, 4), 1);
    }
}
