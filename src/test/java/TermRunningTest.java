/** Ticks and windows. */
@Of("RUNNING")
public final class TermRunningTest {
    public static void main(String[] args) {
        Tests.run(TermRunningTest.class);
    }

    @Says("in each TICK, TIME is one more")
    static void timeGoesOnWhenNobodyWorks() {
        SeparationMonitor x = new SeparationMonitor(1);
        x.window(0, 3);
        x.boot();
        for (int t = 1; t <= 10; t++) {
            Check.due("begun", x.run(1), 0);
            Check.due("time", x.count(1), t);
        }
        x.run(400);
        Check.due("time", x.count(1), 410);
    }

    @Says("TIME is one more, and if the WINDOW's PARTITION")
    static void timeIsOneMoreBeforeTheInstruction() {
        SeparationMonitor x = new SeparationMonitor(1);
        Rig.place(x, 1, 4, 2, Asm.lui(1, 1), Asm.sw(1, 1, 0));
        x.channel(0, 1, 0, 1);
        x.window(1, 2);
        x.boot();
        x.run(2);
        Check.due("the hour of what the second tick wrote", x.object(0, 1), 2);
        Check.due("time", x.count(1), 2);
    }

    @Says("if the WINDOW's PARTITION is READY")
    static void oneThatIsStoppedInItsWindowDoesNoMore() {
        SeparationMonitor x = new SeparationMonitor(1);
        Rig.place(x, 0, 0, 3, Rig.NOTHING, Asm.BREAK, Rig.LOOP);
        Rig.place(x, 1, 4, 1, Rig.LOOP);
        x.window(0, 5);
        x.window(1, 2);
        x.boot();
        Check.due("begun in its window", x.run(5), 2);
        Check.due("begun by the next", x.run(2), 2);
        Check.due("begun in its next window", x.run(5), 0);
        Check.due("begun by the next again", x.run(2), 2);
    }

    @Says("if the WINDOW's PARTITION is READY")
    static void onlyTheWindowsPartitionWorks() {
        SeparationMonitor x = new SeparationMonitor(1);
        for (int p = 0; p < 4; p++) {
            Rig.place(x, p, 10 * p, 1, Rig.LOOP);
        }
        x.window(2, 3);
        x.window(0, 1);
        x.boot();
        x.run(7);
        int[] dues = {1, 0, 6, 0};
        for (int p = 0; p < 4; p++) {
            Check.due("begun by " + p, x.told(p, 4), dues[p]);
        }
    }

    @Says("hasn't YIELDED in this WINDOW")
    static void aYieldInTheFirstTickLastsForTheWholeWindow() {
        SeparationMonitor x = Rig.booted(Rig.STOP, 2, Asm.CALL, Rig.LOOP);
        Check.due("begun in the first tick", x.run(1), 1);
        Check.due("begun in the others", x.run(19), 0);
        Check.due("begun in the first tick of the next window", x.run(1), 1);
    }

    @Says("hasn't YIELDED in this WINDOW")
    static void aYieldInTheLastTickIsOverAtOnce() {
        SeparationMonitor x = new SeparationMonitor(1);
        Rig.place(x, 0, 0, 3, Rig.NOTHING, Asm.CALL, Rig.LOOP);
        x.window(0, 2);
        x.boot();
        Check.due("begun in the first window", x.run(2), 2);
        Check.due("begun in the second", x.run(2), 2);
    }

    @Says("hasn't YIELDED in this WINDOW")
    static void aYieldInAWindowOf1IsOverAtOnce() {
        SeparationMonitor x = new SeparationMonitor(1);
        Rig.place(x, 0, 0, 2, Asm.CALL, Asm.jal(0, -4));
        x.window(0, 1);
        x.boot();
        Check.due("begun", x.run(30), 30);
    }

    @Says("hasn't YIELDED in this WINDOW")
    static void aYieldEndsWithItsWindowThoughTheNextIsOfTheSamePartition() {
        SeparationMonitor x = new SeparationMonitor(1);
        Rig.place(x, 0, 40, 2, Asm.CALL, Asm.jal(0, -4));
        x.window(0, 3);
        x.window(0, 2);
        x.boot();
        Check.due("begun in the first", x.run(3), 1);
        Check.due("begun in the second", x.run(2), 2);
        Check.due("begun in the first again", x.run(3), 2);
        Check.due("begun in the second again", x.run(2), 2);
    }

    @Says("hasn't YIELDED in this WINDOW")
    static void aYieldIsOfItsPartitionAlone() {
        SeparationMonitor x = new SeparationMonitor(1);
        Rig.place(x, 0, 40, 2, Asm.CALL, Rig.LOOP);
        Rig.place(x, 1, 10, 1, Rig.LOOP);
        x.window(0, 6);
        x.window(1, 4);
        x.boot();
        Check.due("begun in its window", x.run(6), 1);
        Check.due("begun in the other's", x.run(4), 4);
        Check.due("begun in its next", x.run(6), 6);
    }

    @Says("it does one INSTRUCTION")
    static void eachTickIsOneInstruction() {
        SeparationMonitor x = Rig.booted(Rig.STOP, 3, Asm.addi(1, 1, 1), Asm.addi(2, 2, 1), Asm.jal(0, -8));
        for (int t = 1; t <= 50; t++) {
            Check.due("begun", x.run(1), 1);
            Check.due("x1 at " + t, x.register(0, 1), (t + 2) / 3);
            Check.due("x2 at " + t, x.register(0, 2), (t + 1) / 3);
            Check.due("instructions at " + t, x.told(0, 4), t);
        }
    }

    @Says("After as many TICKS as its length the next WINDOW begins")
    static void windowsOf1AndOf20EndAfterTheirTicks() {
        SeparationMonitor x = new SeparationMonitor(1);
        int[] lengths = {1, 20, 3};
        for (int w = 0; w < 3; w++) {
            x.window(w, lengths[w]);
        }
        x.boot();
        int begun = 1;
        for (int w = 0; w < 3; w++) {
            for (int left = lengths[w]; left > 0; left--) {
                Check.due("window", x.count(2), w);
                Check.due("ticks left", x.count(3), left);
                Check.due("windows begun", x.count(5), begun);
                x.run(1);
            }
            begun++;
        }
    }

    @Says("the next WINDOW begins (after the last the first)")
    static void afterTheSixthComesTheFirst() {
        SeparationMonitor x = new SeparationMonitor(1);
        for (int w = 0; w < 6; w++) {
            x.window(0, 2);
        }
        x.boot();
        x.run(11);
        Rig.dueCounts(x, 1, 11, 5, 1, 0, 6);
        x.run(1);
        Rig.dueCounts(x, 1, 12, 0, 2, 0, 7);
        x.run(12);
        Rig.dueCounts(x, 1, 24, 0, 2, 0, 13);
    }

    @Says("the next WINDOW begins (after the last the first)")
    static void afterTheOnlyOneItComesAgain() {
        SeparationMonitor x = new SeparationMonitor(1);
        x.window(0, 1);
        x.boot();
        for (int t = 1; t <= 5; t++) {
            x.run(1);
            Rig.dueCounts(x, 1, t, 0, 1, 0, t + 1);
        }
    }

    @Says("After as many TICKS as its length the next WINDOW begins")
    static void oneRunMayGoThroughManyWindows() {
        SeparationMonitor x = new SeparationMonitor(1);
        Rig.place(x, 0, 0, 1, Rig.LOOP);
        x.window(0, 3);
        x.window(1, 4);
        x.boot();
        Check.due("begun", x.run(400), 57 * 3 + 1);
        Rig.dueCounts(x, 1, 400, 0, 2, x.count(4), 115);
    }
}
