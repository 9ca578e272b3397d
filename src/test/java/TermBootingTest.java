/** What is new when it boots. */
@Of("BOOTING")
public final class TermBootingTest {
    public static void main(String[] args) {
        Tests.run(TermBootingTest.class);
    }

    /** Writes channels 0 and 3 in its second and third tick. */
    private static SeparationMonitor writer() {
        SeparationMonitor x = Rig.set(Rig.STOP, 6, Asm.lui(1, 1), Asm.sw(1, 1, 0), Asm.sw(1, 1, 12), Rig.LOOP);
        x.channel(0, 0, 1, 100);
        x.channel(3, 0, 1, 100);
        x.boot();
        x.run(4);
        Check.due("value 0 before", x.object(0, 0), 4096);
        Check.due("value 3 before", x.object(3, 0), 4096);
        x.reset();
        return x;
    }

    @Says("all CHANNELS are empty")
    static void whatAChannelHeldIsGoneAtTheNextBoot() {
        SeparationMonitor x = writer();
        x.boot();
        for (int c = 0; c < 4; c++) {
            Check.due("value " + c, x.object(c, 0), 0);
            Check.due("hour " + c, x.object(c, 1), -1);
        }
    }

    @Says("all CHANNELS are empty")
    static void anEmptiedChannelReadsAs0AndHasNoAge() {
        SeparationMonitor x = writer();
        Rig.place(x, 0, Rig.FIRST, 5, Asm.lui(1, 1), Asm.addi(2, 0, 9), Asm.lw(2, 1, 12), Asm.addi(15, 0, Asm.AGE),
                Asm.CALL);
        x.boot();
        x.run(5);
        Check.due("faults", x.told(0, 1), 0);
        Check.due("read", x.register(0, 2), 0);
        Check.due("age", x.register(0, 10), -1);
    }

    @Says("for each PARTITION with a size above 0")
    static void aSizeOf1IsMeasuredAndASizeOf0IsNot() {
        SeparationMonitor x = new SeparationMonitor(1);
        x.load(40, 7);
        x.region(0, 30, 0);
        x.region(1, 40, 1);
        x.region(2, 0, 0);
        x.region(3, 95, 0);
        x.window(1, 1);
        int m = Asm.h(Asm.h(40, 1), 7);
        Check.due("the log", x.boot(), Asm.h(0, m));
        int[] dues = {0, m, 0, 0};
        for (int p = 0; p < 4; p++) {
            Check.due("measurement of " + p, x.told(p, 5), dues[p]);
            Check.due("ready " + p, x.told(p, 0), p == 1 ? 1 : 0);
        }
    }

    @Says("for each PARTITION with a size above 0, in order")
    static void theLogGoesByTheNumbersOfPartitions() {
        SeparationMonitor x = new SeparationMonitor(1);
        int log = 0;
        for (int p = 0; p < 4; p++) {
            Rig.place(x, p, 60 - 20 * p, 2, 100 + p, 200 + p);
            log = Asm.h(log, Rig.measured(x, 60 - 20 * p, 2));
        }
        x.window(3, 1);
        x.window(0, 1);
        Check.due("the log", x.boot(), log);
    }

    @Says("its MEASUREMENT is H of H of .. : from H(first WORD, size) on")
    static void measurementsOfOneWordAtTheEndsOfMemory() {
        SeparationMonitor x = new SeparationMonitor(1);
        x.load(95, 7);
        x.region(0, 95, 1);
        x.region(1, 0, 1);
        x.window(0, 1);
        x.boot();
        Check.due("at word 95", x.told(0, 5), LAST_WORD_OF_7);
        Check.due("at word 0", x.told(1, 5), FIRST_WORD_OF_0);
    }

    /** Reckoned outside of Java: H(H(95, 1), 7) and H(H(0, 1), 0). */
    private static final int LAST_WORD_OF_7 = 108065064;
    private static final int FIRST_WORD_OF_0 = 1061253427;

    @Says("from H(first WORD, size) on")
    static void whereARegionIsAndItsSizeAreMeasured() {
        SeparationMonitor x = new SeparationMonitor(1);
        x.region(0, 10, 2);
        x.region(1, 12, 2);
        x.region(2, 20, 3);
        x.window(0, 1);
        x.boot();
        Check.due("two words of 0 at 10", x.told(0, 5), Asm.h(Asm.h(Asm.h(10, 2), 0), 0));
        Check.due("two words of 0 at 12", x.told(1, 5), Asm.h(Asm.h(Asm.h(12, 2), 0), 0));
        Check.due("three words of 0 at 20", x.told(2, 5), Asm.h(Asm.h(Asm.h(Asm.h(20, 3), 0), 0), 0));
    }

    @Says("H(that, w) for each WORD w of its REGION")
    static void theFirstAndTheLastOf32WordsAreMeasuredAndTheirNeighboursNot() {
        SeparationMonitor x = new SeparationMonitor(1);
        x.region(0, 10, 32);
        x.window(0, 1);
        int zeros = x.boot();
        int[][] dues = {{9, 0}, {10, 1}, {41, 1}, {42, 0}};
        for (int[] due : dues) {
            x.reset();
            x.load(due[0], 5);
            int log = x.boot();
            Check.due("the log, with word " + due[0], log, Asm.h(0, Rig.measured(x, 10, 32)));
            Check.due("word " + due[0] + " is measured", log == zeros ? 0 : 1, due[1]);
            x.reset();
            x.load(due[0], 0);
            Check.due("the log of zeros", x.boot(), zeros);
        }
    }

    @Says("THE LOG, 0 before")
    static void theLogBeginsAt0AtEachBoot() {
        SeparationMonitor x = Rig.set(Rig.STOP, 2, 1, 2);
        int log = Asm.h(0, Rig.measured(x, Rig.FIRST, 2));
        for (int n = 1; n <= 3; n++) {
            Check.due("the log of boot " + n, x.boot(), log);
            Check.due("count(4)", x.count(4), log);
            x.reset();
        }
    }

    @Says("THE LOG, 0 before")
    static void theLogStays0WithoutRegions() {
        SeparationMonitor x = Rig.set(Rig.STOP, 2, 1, 2);
        x.boot();
        x.reset();
        x.region(0, 0, 0);
        Check.due("the log", x.boot(), 0);
        Check.due("count(4)", x.count(4), 0);
    }

    @Says("What is in its REGION now is its IMAGE")
    static void theImageIsOfTheLatestBoot() {
        SeparationMonitor x = Rig.set(Rig.RESTART, 4, Asm.addi(1, 0, 5), Asm.sw(1, 0, 12), Asm.BREAK, 1);
        x.boot();
        x.run(20);
        Check.due("restored", x.memory(Rig.FIRST + 3), 1);
        x.run(2);
        Check.due("written", x.memory(Rig.FIRST + 3), 5);
        x.reset();
        x.load(Rig.FIRST, Asm.addi(1, 0, 6));
        x.boot();
        Check.due("what was written is measured", x.told(0, 5), Rig.measured(x, Rig.FIRST, 4));
        x.run(2);
        Check.due("written anew", x.memory(Rig.FIRST + 3), 6);
        x.run(18);
        Check.due("restarts", x.told(0, 3), 1);
        Check.due("restored to what was there at the latest boot", x.memory(Rig.FIRST + 3), 5);
        Check.due("with the word loaded before it", x.memory(Rig.FIRST), Asm.addi(1, 0, 6));
    }

    @Says("What is in its REGION now is its IMAGE")
    static void theImageHasAll32Words() {
        SeparationMonitor x = Rig.set(Rig.RESTART, 32, Asm.sw(0, 0, 124), Asm.sw(0, 0, 0), Asm.BREAK);
        x.load(Rig.FIRST + 31, 77);
        x.boot();
        x.run(2);
        Check.due("last word written", x.memory(Rig.FIRST + 31), 0);
        Check.due("first word written", x.memory(Rig.FIRST), 0);
        x.run(1);
        Check.due("last word", x.memory(Rig.FIRST + 31), 77);
        Check.due("first word", x.memory(Rig.FIRST), Asm.sw(0, 0, 124));
    }

    /** Fills x1 and x15, then faults; by its policy it is stopped. */
    private static SeparationMonitor stopped() {
        SeparationMonitor x = Rig.booted(Rig.STOP, 4, Asm.addi(1, 0, 5), Asm.addi(15, 0, 6), Asm.BREAK);
        x.run(20);
        Check.due("ready before", x.told(0, 0), 0);
        Check.due("PC before", x.register(0, Rig.PC), 8);
        x.reset();
        x.boot();
        return x;
    }

    @Says("It's READY")
    static void oneThatWasStoppedIsReadyAgain() {
        SeparationMonitor x = stopped();
        Check.due("ready", x.told(0, 0), 1);
        Check.due("begun", x.run(20), 3);
    }

    @Says("PC 0")
    static void thePcIs0Again() {
        Check.due("PC", stopped().register(0, Rig.PC), 0);
    }

    @Says("REGISTERS x0 .. x15 are 0")
    static void allRegistersAre0Again() {
        SeparationMonitor x = stopped();
        for (int r = 0; r <= 15; r++) {
            Check.due("x" + r, x.register(0, r), 0);
        }
    }

    @Says("no RESTARTS")
    static void threeRestartsCanComeAfterEachBoot() {
        SeparationMonitor x = Rig.set(Rig.RESTART, 1, Asm.BREAK);
        for (int n = 1; n <= 3; n++) {
            x.boot();
            Check.due("restarts at boot " + n, x.told(0, 3), 0);
            Check.due("begun since boot " + n, x.run(100), 4);
            Check.due("restarts since boot " + n, x.told(0, 3), 3);
            x.reset();
        }
    }

    @Says("Others are STOPPED")
    static void aPartitionWithoutWordsDoesNothingInItsWindow() {
        SeparationMonitor x = new SeparationMonitor(1);
        Rig.place(x, 1, 4, 1, Rig.LOOP);
        x.region(0, 4, 0);
        x.window(0, 5);
        x.window(1, 2);
        x.boot();
        Check.due("begun in its window", x.run(5), 0);
        Check.due("begun in the next", x.run(2), 2);
        Rig.dueTold(x, 0, 0, 0, 0, 0, 0, 0, 0, 4, 0);
    }

    @Says("Others are STOPPED")
    static void oneThatLostItsWordsIsStoppedAtTheNextBoot() {
        SeparationMonitor x = Rig.booted(Rig.SKIP, 2, Asm.BREAK, Rig.LOOP);
        x.run(5);
        Check.due("ready before", x.told(0, 0), 1);
        x.reset();
        x.region(0, Rig.FIRST, 0);
        x.boot();
        Check.due("ready", x.told(0, 0), 0);
        Check.due("begun", x.run(20), 0);
    }

    @Says("TIME is 0")
    static void timeIs0AtEachBoot() {
        SeparationMonitor x = Rig.booted(Rig.STOP, 1, Rig.LOOP);
        Check.due("time", x.count(1), 0);
        x.run(33);
        Check.due("time after a run", x.count(1), 33);
        x.reset();
        x.boot();
        Check.due("time, booted again", x.count(1), 0);
    }

    @Says("the first WINDOW begins")
    static void theFirstWindowBeginsWithAllItsTicks() {
        SeparationMonitor x = new SeparationMonitor(1);
        x.window(0, 4);
        x.window(1, 7);
        x.boot();
        Rig.dueCounts(x, 1, 0, 0, 4, 0, 1, 2, 1);
        x.run(6);
        Rig.dueCounts(x, 1, 6, 1, 5, 0, 2, 2, 1);
        x.reset();
        x.boot();
        Rig.dueCounts(x, 1, 0, 0, 4, 0, 1, 2, 2);
        x.run(2);
        x.reset();
        x.boot();
        Rig.dueCounts(x, 1, 0, 0, 4, 0, 1, 2, 3);
    }

    @Says("the first WINDOW begins")
    static void aYieldBeforeTheBootDoesNotLast() {
        SeparationMonitor x = Rig.booted(Rig.STOP, 2, Asm.CALL, Rig.LOOP);
        Check.due("begun", x.run(5), 1);
        x.reset();
        x.boot();
        Check.due("begun, booted again", x.run(1), 1);
    }

    @Says("the first WINDOW begins")
    static void aRestBeforeTheBootDoesNotLast() {
        SeparationMonitor x = Rig.booted(Rig.RESTART, 1, Asm.BREAK);
        Check.due("begun", x.run(5), 1);
        x.reset();
        x.boot();
        Check.due("begun, booted again", x.run(1), 1);
    }
}
