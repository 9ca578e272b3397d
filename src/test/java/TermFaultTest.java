/** What each policy does when an instruction faults. */
@Of("A FAULT")
public final class TermFaultTest {
    public static void main(String[] args) {
        Tests.run(TermFaultTest.class);
    }

    @Says("nothing of the INSTRUCTION is done")
    static void registersAndMemoryStay() {
        SeparationMonitor x = Rig.booted(Rig.SKIP, 32, Asm.addi(1, 0, 5), Asm.addi(15, 0, 9), Asm.addi(10, 0, 4),
                Asm.lw(1, 0, 2), Asm.lw(1, 0, 128), Asm.CALL, Asm.jal(16, 100), Asm.jalr(1, 16, 0), Asm.sw(1, 0, 126),
                Asm.sw(1, 0, 128), Asm.BREAK);
        x.run(11);
        Check.due("faults", x.told(0, 1), 8);
        int[] dues = {0, 5, 0, 0, 0, 0, 0, 0, 0, 0, 4, 0, 0, 0, 0, 9, 44};
        for (int r = 0; r <= 16; r++) {
            Check.due("register " + r, x.register(0, r), dues[r]);
        }
        for (int i = 11; i <= 33; i++) {
            Check.due("word " + i, x.memory(Rig.FIRST + i), 0);
        }
    }

    @Says("nothing of the INSTRUCTION is done")
    static void slotsAndChannelsStay() {
        SeparationMonitor x = Rig.set(Rig.SKIP, 16, Asm.lui(1, 1), Asm.sw(1, 1, 0), Asm.sw(1, 1, 4), Asm.sw(1, 1, 1),
                Asm.addi(15, 0, Asm.SEAL), Asm.addi(10, 0, 4), Asm.addi(11, 0, 3), Asm.CALL);
        x.boot();
        x.run(8);
        Check.due("faults", x.told(0, 1), 4);
        for (int c = 0; c < 4; c++) {
            Check.due("hour of " + c, x.object(c, 1), -1);
            Check.due("held by " + c, x.object(c, 2), 0);
            Check.due("mark of " + c, x.object(c, 3), 0);
        }
    }

    @Says("STOP: STOPPED")
    static void aStoppedPartitionStaysAsItIs() {
        SeparationMonitor x = Rig.booted(Rig.STOP, 4, Asm.addi(1, 0, 5), Asm.sw(1, 0, 12), Asm.BREAK);
        Check.due("begun", x.run(100), 3);
        Rig.dueTold(x, 0, 0, 1, 4, 0, 3);
        Check.due("PC stays", x.register(0, Rig.PC), 8);
        Check.due("x1 stays", x.register(0, 1), 5);
        Check.due("memory stays", x.memory(Rig.FIRST + 3), 5);
        Check.due("time goes on", x.count(1), 100);
    }

    @Says("STOP: STOPPED")
    static void eachKindStops() {
        int[][] dues = {{0, 1}, {Asm.lw(1, 0, 1), 2}, {Asm.lw(1, 0, -4), 3}, {Asm.BREAK, 4}};
        for (int[] due : dues) {
            SeparationMonitor x = Rig.booted(Rig.STOP, 2, due[0], Rig.LOOP);
            Check.due("begun", x.run(20), 1);
            Rig.dueTold(x, 0, 0, 1, due[1], 0, 1);
        }
    }

    @Says("SKIP: PC + 4 follows")
    static void theNextWordIsDoneInTheSameWindow() {
        SeparationMonitor x = Rig.booted(Rig.SKIP, 5, Asm.addi(1, 0, 5), Asm.BREAK, 0, Asm.addi(2, 1, 1), Asm.CALL);
        Check.due("begun", x.run(20), 5);
        Rig.dueTold(x, 0, 1, 2, 1, 0, 5);
        Check.due("x2", x.register(0, 2), 6);
    }

    @Says("SKIP: PC + 4 follows")
    static void itGoesOnBehindTheRegion() {
        SeparationMonitor x = Rig.booted(Rig.SKIP, 1, Asm.BREAK);
        Check.due("begun", x.run(400), 400);
        Rig.dueTold(x, 0, 1, 400, 3, 0, 400);
        Check.due("PC", x.register(0, Rig.PC), 1600);
    }

    @Says("SKIP: PC + 4 follows")
    static void aPcThatIsNotAlignedStaysSo() {
        SeparationMonitor x = Rig.booted(Rig.SKIP, 1, Asm.jal(0, 2));
        Check.due("begun", x.run(10), 10);
        Rig.dueTold(x, 0, 1, 9, 2, 0, 10);
        Check.due("PC", x.register(0, Rig.PC), 2 + 9 * 4);
    }

    @Says("SKIP: PC + 4 follows")
    static void fromBelow0ItComesToTheRegionAgain() {
        SeparationMonitor x = Rig.booted(Rig.SKIP, 2, Asm.addi(1, 1, 1), Asm.jal(0, -12));
        Check.due("begun", x.run(5), 5);
        Check.due("faults", x.told(0, 1), 2);
        Check.due("kind", x.told(0, 2), 3);
        Check.due("PC", x.register(0, Rig.PC), 4);
        Check.due("x1", x.register(0, 1), 2);
    }

    @Says("SKIP: PC + 4 follows")
    static void aPcAtTheLargestMultipleOf4Wraps() {
        int last = Rig.MAX - 3;
        SeparationMonitor x = Rig.booted(Rig.SKIP, 4, Asm.liHigh(1, last), Asm.liLow(1, last), Asm.jalr(0, 1, 0));
        x.run(4);
        Check.due("faults", x.told(0, 1), 1);
        Check.due("PC", x.register(0, Rig.PC), Rig.MIN);
        x.run(1);
        Check.due("kind", x.told(0, 2), 3);
        Check.due("PC behind it", x.register(0, Rig.PC), Rig.MIN + 4);
    }

    /** Writes its own words 4 and 0, then faults; with words before and behind that are not its. */
    private static SeparationMonitor restarter() {
        SeparationMonitor x = Rig.set(Rig.RESTART, 6, Asm.addi(1, 1, 5), Asm.sw(1, 0, 16), Asm.sw(1, 0, 0), Asm.BREAK,
                7, 8);
        x.load(Rig.FIRST + 6, 66);
        x.load(Rig.FIRST - 1, 55);
        x.boot();
        return x;
    }

    @Says("RESTART: with 3 RESTARTS before: STOPPED")
    static void theFourthFaultStops() {
        SeparationMonitor x = restarter();
        for (int n = 1; n <= 3; n++) {
            Check.due("begun in window " + n, x.run(20), 4);
            Rig.dueTold(x, 0, 1, n, 4, n, 4 * n);
        }
        Check.due("begun in window 4", x.run(20), 4);
        Rig.dueTold(x, 0, 0, 4, 4, 3, 16);
        Check.due("begun afterwards", x.run(400), 0);
    }

    @Says("RESTART: with 3 RESTARTS before: STOPPED")
    static void theOneThatTheFourthFaultStopsStaysAsItIs() {
        SeparationMonitor x = restarter();
        x.run(80);
        Check.due("ready", x.told(0, 0), 0);
        Check.due("PC stays", x.register(0, Rig.PC), 12);
        Check.due("x1 stays", x.register(0, 1), 5);
        Check.due("word 4 stays", x.memory(Rig.FIRST + 4), 5);
        Check.due("word 0 stays", x.memory(Rig.FIRST), 5);
    }

    @Says("else its REGION is its IMAGE again")
    static void allItsWordsAreBackAndNoOthers() {
        SeparationMonitor x = restarter();
        x.run(3);
        Check.due("word 4 written", x.memory(Rig.FIRST + 4), 5);
        Check.due("word 0 written", x.memory(Rig.FIRST), 5);
        x.run(1);
        int[] dues = {55, Asm.addi(1, 1, 5), Asm.sw(1, 0, 16), Asm.sw(1, 0, 0), Asm.BREAK, 7, 8, 66};
        for (int i = 0; i < dues.length; i++) {
            Check.due("word " + (i - 1), x.memory(Rig.FIRST - 1 + i), dues[i]);
        }
    }

    @Says("REGISTERS and PC are 0")
    static void registersAndPcAre0AfterARestart() {
        int[] program = new int[17];
        for (int r = 1; r <= 15; r++) {
            program[r] = Asm.addi(r, 0, 100 + r);
        }
        program[0] = Rig.NOTHING;
        program[16] = Asm.BREAK;
        SeparationMonitor x = Rig.booted(Rig.RESTART, 17, program);
        x.run(16);
        Check.due("x1 before", x.register(0, 1), 101);
        Check.due("x15 before", x.register(0, 15), 115);
        x.run(1);
        for (int r = 0; r <= 16; r++) {
            Check.due("register " + r, x.register(0, r), 0);
        }
    }

    @Says("and no more in this WINDOW")
    static void aRestarterRestsUntilItsWindowEnds() {
        SeparationMonitor x = Rig.booted(Rig.RESTART, 1, Asm.BREAK);
        Check.due("begun in the first tick", x.run(1), 1);
        Check.due("begun in the others", x.run(19), 0);
        Check.due("begun in the next window", x.run(1), 1);
        Check.due("restarts", x.told(0, 3), 2);
    }

    @Says("and no more in this WINDOW")
    static void theNextWindowMayBeTheSamePartitions() {
        SeparationMonitor x = new SeparationMonitor(1);
        Rig.place(x, 0, 0, 1, Asm.BREAK);
        x.policy(0, Rig.RESTART);
        x.window(0, 3);
        x.window(0, 1);
        x.boot();
        Check.due("a window of 3", x.run(3), 1);
        Check.due("a window of 1", x.run(1), 1);
        Check.due("a window of 3 again", x.run(3), 1);
        Check.due("restarts", x.told(0, 3), 3);
        Check.due("the fourth", x.run(1), 1);
        Check.due("ready", x.told(0, 0), 0);
    }

    @Says("By POLICY")
    static void onlyTheOneThatFaultsSuffers() {
        SeparationMonitor x = new SeparationMonitor(1);
        Rig.place(x, 0, 0, 1, Asm.BREAK);
        Rig.place(x, 1, 1, 2, Asm.addi(1, 1, 1), Asm.jal(0, -4));
        x.policy(0, Rig.RESTART);
        x.window(1, 4);
        x.window(0, 4);
        x.boot();
        Check.due("begun", x.run(80), 44);
        Check.due("stopped", x.told(0, 0), 0);
        Rig.dueTold(x, 1, 1, 0, 0, 0, 40);
        Check.due("x1", x.register(1, 1), 20);
    }

    @Says("By POLICY")
    static void faultsOfThePcGoByPolicyToo() {
        SeparationMonitor x = Rig.booted(Rig.RESTART, 1, Rig.NOTHING);
        Check.due("begun in a window", x.run(20), 2);
        Rig.dueTold(x, 0, 1, 1, 3, 1, 2);
        Check.due("PC", x.register(0, Rig.PC), 0);
    }
}
