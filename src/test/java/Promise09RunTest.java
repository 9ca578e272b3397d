/** run. What a tick is, is in TermRunningTest. */
@Of("Promise 9")
public final class Promise09RunTest {
    public static void main(String[] args) {
        Tests.run(Promise09RunTest.class);
    }

    @Says("n TICKS (1 .. 400)")
    static void otherNumbersOfTicksAreBad() {
        SeparationMonitor x = Rig.booted(Rig.STOP, 1, Rig.LOOP);
        int[] numbers = {0, -1, 401, 402, Rig.MIN, Rig.MAX};
        for (int n : numbers) {
            Check.bad("run(" + n + ")", Check.call(() -> x.run(n)));
        }
        Check.due("time", x.count(1), 0);
        Check.due("begun", x.told(0, 4), 0);
    }

    @Says("n TICKS (1 .. 400)")
    static void oneTickAndFourHundredAreRun() {
        SeparationMonitor x = Rig.booted(Rig.STOP, 1, Rig.LOOP);
        Check.due("run(1)", x.run(1), 1);
        Check.due("time", x.count(1), 1);
        Check.due("run(400)", x.run(400), 400);
        Check.due("time", x.count(1), 401);
        Check.due("begun", x.told(0, 4), 401);
    }

    @Says("n TICKS")
    static void ticksMayBeRunInParts() {
        SeparationMonitor x = Rig.booted(Rig.SKIP, 5, Asm.addi(1, 1, 1), Asm.BREAK, Asm.jal(0, -8));
        SeparationMonitor y = Rig.booted(Rig.SKIP, 5, Asm.addi(1, 1, 1), Asm.BREAK, Asm.jal(0, -8));
        int begun = 0;
        for (int n = 1; n <= 20; n++) {
            begun += x.run(n);
        }
        Check.due("begun at once", y.run(210), begun);
        Check.due("x1", x.register(0, 1), y.register(0, 1));
        Check.due("PC", x.register(0, Rig.PC), y.register(0, Rig.PC));
        Check.due("ticks left", x.count(3), y.count(3));
    }

    @Says("Not now if it isn't BOOTED")
    static void notNowIfItIsNotBooted() {
        SeparationMonitor x = Rig.set(Rig.STOP, 1, Rig.LOOP);
        Check.notNow("run before boot", Check.call(() -> x.run(1)));
        x.boot();
        Check.fine("run", Check.call(() -> x.run(1)));
        x.reset();
        Check.notNow("run after reset", Check.call(() -> x.run(1)));
    }

    @Says("Answers how many INSTRUCTIONS were begun in them")
    static void itAnswersThoseOfAllPartitionsInTheseTicks() {
        SeparationMonitor x = new SeparationMonitor(1);
        Rig.place(x, 0, 40, 2, Asm.addi(1, 1, 1), Asm.jal(0, -4));
        Rig.place(x, 3, 10, 2, Asm.addi(1, 1, 1), Asm.jal(0, -4));
        x.window(3, 4);
        x.window(1, 3);
        x.window(0, 2);
        x.boot();
        Check.due("run(5)", x.run(5), 4);
        Check.due("run(3)", x.run(3), 1);
        Check.due("run(1)", x.run(1), 1);
        Check.due("run(9)", x.run(9), 6);
        int[] dues = {4, 0, 0, 8};
        for (int p = 0; p < 4; p++) {
            Check.due("begun by " + p, x.told(p, 4), dues[p]);
        }
    }

    @Says("Answers how many INSTRUCTIONS were begun in them")
    static void itAnswers0WhenNobodyWorks() {
        SeparationMonitor x = new SeparationMonitor(1);
        Rig.place(x, 0, 40, 2, Asm.CALL, Rig.LOOP);
        x.window(0, 20);
        x.boot();
        Check.due("until the yield", x.run(1), 1);
        Check.due("after it", x.run(19), 0);
        SeparationMonitor y = new SeparationMonitor(1);
        y.window(2, 1);
        y.boot();
        Check.due("without a region", y.run(400), 0);
    }

    @Says("(those that FAULT, too)")
    static void thoseThatFaultAreCounted() {
        int[][] dues = {{Rig.STOP, 1}, {Rig.RESTART, 1}, {Rig.SKIP, 7}};
        for (int[] due : dues) {
            SeparationMonitor x = Rig.booted(due[0], 1, Asm.BREAK);
            Check.due("run(7) with policy " + due[0], x.run(7), due[1]);
            Check.due("begun with policy " + due[0], x.told(0, 4), due[1]);
            Check.due("faults with policy " + due[0], x.told(0, 1), due[1]);
        }
    }

    @Says("(those that FAULT, too)")
    static void thoseWhosePcFaultsAreCounted() {
        SeparationMonitor x = Rig.booted(Rig.SKIP, 1, Rig.NOTHING);
        Check.due("run(5)", x.run(5), 5);
        Check.due("faults", x.told(0, 1), 4);
        Check.due("begun", x.told(0, 4), 5);
    }
}
