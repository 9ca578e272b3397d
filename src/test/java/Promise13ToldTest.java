/** told. */
@Of("Promise 13")
public final class Promise13ToldTest {
    public static void main(String[] args) {
        Tests.run(Promise13ToldTest.class);
    }

    /** Faults with 4 and then with 2, then goes round over the latter. */
    private static SeparationMonitor skipper() {
        return Rig.set(Rig.SKIP, 3, Asm.BREAK, Asm.lw(1, 0, 1), Asm.jal(0, -4));
    }

    @Says("Of PARTITION p")
    static void partitionsAre0To3() {
        SeparationMonitor x = skipper();
        int[] none = {-1, 4, Rig.MIN, Rig.MAX};
        for (int round = 0; round < 2; round++) {
            for (int p : none) {
                Check.bad("told(" + p + ", 0)", Check.call(() -> x.told(p, 0)));
                Check.bad("told(" + p + ", 8)", Check.call(() -> x.told(p, 8)));
            }
            if (round == 0) {
                x.boot();
            }
        }
    }

    @Says("size (8)")
    static void whatIs0To8() {
        SeparationMonitor x = skipper();
        int[] none = {-1, 9, 10, Rig.MIN, Rig.MAX};
        for (int round = 0; round < 2; round++) {
            for (int what : none) {
                Check.bad("told(0, " + what + ")", Check.call(() -> x.told(0, what)));
            }
            if (round == 0) {
                x.boot();
            }
        }
    }

    @Says("1 if it's READY, else 0 (what 0)")
    static void readyUntilItIsStopped() {
        SeparationMonitor x = Rig.booted(Rig.STOP, 2, Asm.CALL, Asm.BREAK);
        Check.due("booted", x.told(0, 0), 1);
        x.run(20);
        Check.due("yielded", x.told(0, 0), 1);
        x.run(1);
        Check.due("stopped", x.told(0, 0), 0);
        Check.due("one without words", x.told(1, 0), 0);
    }

    @Says("FAULTS (1), the kind of the latest, 0 for none (2)")
    static void faultsAndTheLatestKind() {
        SeparationMonitor x = skipper();
        x.boot();
        int[][] dues = {{0, 0}, {1, 4}, {2, 2}, {2, 2}, {3, 2}};
        for (int t = 0; t < dues.length; t++) {
            Check.due("faults at " + t, x.told(0, 1), dues[t][0]);
            Check.due("kind at " + t, x.told(0, 2), dues[t][1]);
            x.run(1);
        }
    }

    @Says("the kind of the latest, 0 for none (2)")
    static void eachKindHasItsNumber() {
        int[][] dues = {{Rig.NOTHING, 0}, {0, 1}, {Asm.lw(1, 0, 2), 2}, {Asm.lw(1, 0, 128), 3}, {Asm.BREAK, 4}};
        for (int[] due : dues) {
            SeparationMonitor x = Rig.done(due[0]);
            Check.due("the kind of word " + due[0], x.told(0, 2), due[1]);
        }
    }

    @Says("RESTARTS (3)")
    static void restartsFrom0To3() {
        SeparationMonitor x = Rig.booted(Rig.RESTART, 1, Asm.BREAK);
        int[] dues = {0, 1, 2, 3, 3, 3};
        for (int n = 0; n < dues.length; n++) {
            Check.due("restarts after " + n + " windows", x.told(0, 3), dues[n]);
            x.run(20);
        }
        Check.due("faults", x.told(0, 1), 4);
    }

    @Says("INSTRUCTIONS begun (4)")
    static void instructionsOverAllRuns() {
        SeparationMonitor x = Rig.booted(Rig.SKIP, 1, Rig.LOOP);
        for (int n = 0; n <= 3; n++) {
            Check.due("begun", x.told(0, 4), 400 * n);
            x.run(400);
        }
    }

    @Says("its MEASUREMENT (5)")
    static void theMeasurementStaysThoughTheWordsDoNot() {
        SeparationMonitor x = Rig.set(Rig.STOP, 3, Asm.addi(1, 0, 7), Asm.sw(1, 0, 8), 5);
        int m = Rig.measured(x, Rig.FIRST, 3);
        x.boot();
        Check.due("measurement", x.told(0, 5), m);
        x.run(2);
        Check.due("the word is another", x.memory(Rig.FIRST + 2), 7);
        Check.due("measurement after a run", x.told(0, 5), m);
    }

    @Says("all since it BOOTED")
    static void allIsCountedAnewFromTheLatestBootOn() {
        SeparationMonitor x = Rig.booted(Rig.RESTART, 2, Asm.BREAK, 1);
        x.run(30);
        Rig.dueTold(x, 0, 1, 2, 4, 2, 2, Rig.measured(x, Rig.FIRST, 2));
        x.reset();
        x.load(Rig.FIRST + 1, 2);
        x.boot();
        Rig.dueTold(x, 0, 1, 0, 0, 0, 0, Rig.measured(x, Rig.FIRST, 2), 1, Rig.FIRST, 2);
        x.run(1);
        Rig.dueTold(x, 0, 1, 1, 4, 1, 1);
    }

    @Says("(0 for all if it didn't, or isn't)")
    static void allIs0BeforeTheFirstBoot() {
        Rig.dueTold(skipper(), 0, 0, 0, 0, 0, 0, 0, 2, Rig.FIRST, 3);
    }

    @Says("(0 for all if it didn't, or isn't)")
    static void allIs0AfterAReset() {
        SeparationMonitor x = skipper();
        x.boot();
        x.run(5);
        x.reset();
        Rig.dueTold(x, 0, 0, 0, 0, 0, 0, 0, 2, Rig.FIRST, 3);
    }

    @Says("(0 for all if it didn't, or isn't)")
    static void allIs0OfOneThatBootsWithoutWords() {
        SeparationMonitor x = Rig.booted(Rig.RESTART, 1, Asm.BREAK);
        x.run(30);
        x.reset();
        x.region(0, 3, 0);
        x.boot();
        Rig.dueTold(x, 0, 0, 0, 0, 0, 0, 0, 1, 3, 0);
        x.run(30);
        Rig.dueTold(x, 0, 0, 0, 0, 0, 0, 0, 1, 3, 0);
    }

    @Says("its POLICY (6), first WORD (7), size (8)")
    static void whatWasSetUpIsToldAtAnyTime() {
        SeparationMonitor x = new SeparationMonitor(1);
        x.region(0, 0, 32);
        x.region(3, 95, 1);
        x.policy(3, 2);
        x.policy(0, 1);
        x.window(0, 1);
        for (int round = 0; round < 2; round++) {
            int[][] dues = {{1, 0, 32}, {0, 0, 0}, {0, 0, 0}, {2, 95, 1}};
            for (int p = 0; p < 4; p++) {
                for (int k = 0; k < 3; k++) {
                    Check.due("told(" + p + ", " + (6 + k) + ")", x.told(p, 6 + k), dues[p][k]);
                }
            }
            if (round == 0) {
                x.boot();
            }
        }
    }
}
