/** The calls that the word 115 makes, by x15. */
@Of("CALL,")
public final class TermCallTest {
    private static final int[] NO_SLOTS = {-1, 4, 5, 100, -2048};

    public static void main(String[] args) {
        Tests.run(TermCallTest.class);
    }

    @Says("0 YIELD: no more in this WINDOW")
    static void aYieldEndsTheWorkInThisWindow() {
        SeparationMonitor x = Rig.booted(Rig.STOP, 3, Asm.addi(10, 0, 3), Asm.CALL, Asm.addi(1, 0, 1));
        Check.due("begun", x.run(20), 2);
        Check.due("x10 stays", x.register(0, 10), 3);
        Check.due("PC", x.register(0, Rig.PC), 8);
        Rig.dueTold(x, 0, 1, 0, 0, 0, 2);
        x.run(1);
        Check.due("x1 in the next window", x.register(0, 1), 1);
    }

    @Says("0 YIELD: no more in this WINDOW")
    static void noOtherCallEndsTheWork() {
        for (int n = Asm.AGE; n <= Asm.MEASURE; n++) {
            SeparationMonitor x = Rig.set(Rig.STOP, 3, Asm.addi(15, 0, n), Asm.CALL, Rig.LOOP);
            x.channel(0, 0, 1, 1);
            x.boot();
            Check.due("begun with call " + n, x.run(20), 20);
        }
    }

    /** Asks for the age of channel c, where the readers of the channels are these. */
    private static SeparationMonitor asker(int c, int... readers) {
        SeparationMonitor x = Rig.set(Rig.STOP, 5, Asm.addi(15, 0, Asm.AGE), Asm.liHigh(10, c), Asm.liLow(10, c),
                Asm.CALL);
        for (int k = 0; k < 4; k++) {
            x.channel(k, 0, readers[k], 100);
        }
        x.boot();
        x.run(4);
        return x;
    }

    @Says("the age of CHANNEL x10 (0 .. 3, one that it may read)")
    static void thereAreChannels0To3ToAskFor() {
        int[] numbers = {-2048, -1, 0, 1, 2, 3, 4, 5, 4096, 4100, Rig.MIN, Rig.MAX};
        for (int c : numbers) {
            boolean there = c >= 0 && c <= 3;
            SeparationMonitor x = asker(c, 1, 1, 1, 1);
            Check.due("fault for " + c, x.told(0, 2), there ? 0 : 3);
            Check.due("x10 for " + c, x.register(0, 10), there ? -1 : c);
        }
    }

    @Says("one that it may read")
    static void onlyAReaderMayAsk() {
        for (int c = 0; c < 4; c++) {
            for (int open = 0; open < 4; open++) {
                int[] readers = {14, 14, 14, 14};
                readers[open] = 1;
                SeparationMonitor x = asker(c, readers);
                Check.due("fault for " + c + " where it may read " + open, x.told(0, 2), c == open ? 0 : 3);
                Check.due("x10 for " + c + " where it may read " + open, x.register(0, 10), c == open ? -1 : c);
            }
        }
    }

    @Says("TIME less its hour")
    static void theAgeGoesByTheLatestHour() {
        SeparationMonitor x = Rig.set(Rig.STOP, 12, Asm.lui(1, 1), Asm.addi(15, 0, Asm.AGE), Asm.sw(0, 1, 8),
                Asm.addi(10, 0, 2), Asm.CALL, Asm.sw(0, 1, 8), Rig.NOTHING, Asm.addi(10, 0, 2), Asm.CALL);
        x.channel(2, 0, 1, 100);
        x.boot();
        x.run(5);
        Check.due("age", x.register(0, 10), 2);
        x.run(4);
        Check.due("age, written anew", x.register(0, 10), 3);
        Check.due("faults", x.told(0, 1), 0);
    }

    @Says("TIME less its hour")
    static void anotherPartitionIsToldTheAgeOverWindows() {
        SeparationMonitor x = new SeparationMonitor(1);
        Rig.place(x, 0, 0, 3, Asm.lui(1, 1), Asm.sw(1, 1, 12), Rig.LOOP);
        Rig.place(x, 3, 10, 4, Asm.addi(15, 0, Asm.AGE), Asm.addi(10, 0, 3), Asm.CALL);
        x.channel(3, 0, 8, 100);
        x.window(0, 10);
        x.window(1, 20);
        x.window(3, 3);
        x.boot();
        x.run(33);
        Check.due("hour", x.object(3, 1), 2);
        Check.due("age", x.register(3, 10), 31);
    }

    @Says("or -1 if that's above its period")
    static void anAgeOfThePeriodIsToldAndOneAboveIsNot() {
        int[] periods = {1, 2, 3, 50, 99, 100};
        for (int period : periods) {
            if (period > 1) {
                Check.due("one below " + period, Rig.ageAfter(period - 1, period), period - 1);
            }
            Check.due("period " + period, Rig.ageAfter(period, period), period);
            Check.due("one above " + period, Rig.ageAfter(period + 1, period), -1);
            Check.due("far above " + period, Rig.ageAfter(period + 150, period), -1);
        }
    }

    @Says("or it's empty")
    static void anEmptyChannelHasNoAge() {
        SeparationMonitor x = Rig.set(Rig.STOP, 3, Asm.addi(15, 0, Asm.AGE), Asm.CALL);
        x.channel(0, -1, 1, 100);
        x.boot();
        x.run(2);
        Check.due("x10", x.register(0, 10), -1);
        Check.due("faults", x.told(0, 1), 0);
    }

    private static int[] sealer(int slot, int secret) {
        return Rig.joined(new int[] {Asm.addi(15, 0, Asm.SEAL), Asm.addi(10, 0, slot)}, Rig.li(11, secret),
                new int[] {Asm.CALL});
    }

    private static int[] opener(int slot) {
        return new int[] {Asm.addi(15, 0, Asm.OPEN), Asm.addi(10, 0, slot), Asm.addi(11, 0, 5), Asm.CALL};
    }

    @Says("2 SEAL: SLOT x10 (0 .. 3) holds x11 XOR H(KEY, MEASUREMENT), and a MARK, H(H(KEY, x11), MEASUREMENT)")
    static void eachSlotHoldsWhatIsSealed() {
        int[] secrets = {0, 1, -1, 0x12345678, Rig.MIN, Rig.MAX};
        for (int slot = 0; slot < 4; slot++) {
            for (int secret : secrets) {
                SeparationMonitor x = Rig.done(sealer(slot, secret));
                int m = x.told(0, 5);
                Check.due("faults", x.told(0, 1), 0);
                for (int s = 0; s < 4; s++) {
                    boolean it = s == slot;
                    Check.due("held by " + s, x.object(s, 2), it ? secret ^ Asm.h(Rig.KEY, m) : 0);
                    Check.due("mark of " + s, x.object(s, 3), it ? Asm.h(Asm.h(Rig.KEY, secret), m) : 0);
                }
                Check.due("x10 stays", x.register(0, 10), slot);
                Check.due("x11 stays", x.register(0, 11), secret);
            }
        }
    }

    @Says("2 SEAL: SLOT x10 (0 .. 3)")
    static void thereIsNoOtherSlotToSeal() {
        for (int s : NO_SLOTS) {
            Rig.dueFault("SEAL in " + s, 3, sealer(s, 5));
        }
    }

    @Says("2 SEAL: SLOT x10 (0 .. 3) holds x11")
    static void aSlotIsSealedAnew() {
        int[] anew = {Asm.addi(11, 0, 6), Asm.CALL};
        SeparationMonitor x = Rig.done(Rig.joined(sealer(2, 5), anew));
        int m = x.told(0, 5);
        Check.due("held", x.object(2, 2), 6 ^ Asm.h(Rig.KEY, m));
        Check.due("mark", x.object(2, 3), Asm.h(Asm.h(Rig.KEY, 6), m));
    }

    @Says("x11 is v and x10 1")
    static void aSlotOpensForTheSameMeasurement() {
        int[] secrets = {-77, 0, 1, Rig.MIN, Rig.MAX};
        for (int slot = 0; slot < 4; slot++) {
            for (int secret : secrets) {
                int[] open = {Asm.addi(15, 0, Asm.OPEN), Asm.addi(11, 0, 5), Asm.CALL};
                SeparationMonitor x = Rig.done(Rig.joined(sealer(slot, secret), open));
                Check.due("x10 for slot " + slot, x.register(0, 10), 1);
                Check.due("x11 for slot " + slot, x.register(0, 11), secret);
                Check.due("it still holds it", x.object(slot, 2), secret ^ Asm.h(Rig.KEY, x.told(0, 5)));
                Check.due("faults", x.told(0, 1), 0);
            }
        }
    }

    @Says("else x10 is 0")
    static void aSlotDoesNotOpenForAnotherMeasurement() {
        SeparationMonitor x = new SeparationMonitor(Rig.KEY);
        Rig.place(x, 0, 0, 8, sealer(1, 4321));
        Rig.place(x, 1, 20, 8, opener(1));
        x.window(0, 5);
        x.window(1, 4);
        x.boot();
        x.run(9);
        Check.due("faults", x.told(1, 1), 0);
        Check.due("x10", x.register(1, 10), 0);
        Check.due("x11 stays", x.register(1, 11), 5);
        int held = x.object(1, 2);
        x.reset();
        Rig.place(x, 0, 0, 8, opener(1));
        x.boot();
        x.run(4);
        Check.due("x10 of the same partition with other words", x.register(0, 10), 0);
        Check.due("x11 stays", x.register(0, 11), 5);
        Check.due("the slot stays", x.object(1, 2), held);
    }

    /** Opens slot 3 and leaves the answer in x5, then seals it. */
    private static final int[] OPENS_AND_SEALS = {
        Asm.addi(15, 0, Asm.OPEN), Asm.addi(10, 0, 3), Asm.CALL, Asm.addi(5, 10, 0), Asm.addi(15, 0, Asm.SEAL),
        Asm.addi(10, 0, 3), Asm.addi(11, 0, 99), Asm.CALL, Rig.LOOP,
    };

    /** What x5 is when it is booted again with this region, and with this word behind the program's. */
    private static void dueOpened(int first, int size, int lastWord, int due) {
        SeparationMonitor x = Rig.booted(Rig.STOP, 12, OPENS_AND_SEALS);
        x.run(20);
        Check.due("x5 before it was sealed", x.register(0, 5), 0);
        x.reset();
        Rig.place(x, 0, first, size, OPENS_AND_SEALS);
        x.load(first + 11, lastWord);
        x.boot();
        x.run(20);
        Check.due("x5 with " + size + " words from " + first + ", the last " + lastWord, x.register(0, 5), due);
    }

    @Says("if its MARK is H(H(KEY, v), MEASUREMENT)")
    static void aSlotOpensForTheSameWordsInTheSamePlaceAlone() {
        dueOpened(Rig.FIRST, 12, 0, 1);
        dueOpened(Rig.FIRST, 12, 1, 0);
        dueOpened(Rig.FIRST, 13, 0, 0);
        dueOpened(Rig.FIRST, 11, 0, 0);
        dueOpened(Rig.FIRST + 20, 12, 0, 0);
    }

    /** Partitions have no part in it: another one with the same region is the same. */
    @Says("if its MARK is H(H(KEY, v), MEASUREMENT)")
    static void aSlotOpensForAnotherPartitionWithTheSameMeasurement() {
        SeparationMonitor x = Rig.booted(Rig.STOP, 12, OPENS_AND_SEALS);
        x.run(20);
        int m = x.told(0, 5);
        x.reset();
        x.region(0, 0, 0);
        x.region(2, Rig.FIRST, 12);
        x.window(2, 20);
        x.boot();
        x.run(40);
        Check.due("measurement", x.told(2, 5), m);
        Check.due("x5", x.register(2, 5), 1);
    }

    @Says("3 OPEN: SLOT x10")
    static void thereIsNoOtherSlotToOpen() {
        for (int s : NO_SLOTS) {
            Rig.dueFault("OPEN of " + s, 3, opener(s));
        }
    }

    @Says("4: x10 is the MEASUREMENT")
    static void theMeasurementIsOfWhatWasBooted() {
        SeparationMonitor x = Rig.set(Rig.STOP, 32, Asm.addi(15, 0, Asm.MEASURE), Asm.sw(15, 0, 124), Asm.CALL);
        int m = Rig.measured(x, Rig.FIRST, 32);
        x.boot();
        x.run(3);
        Check.due("a word is another now", x.memory(Rig.FIRST + 31), 4);
        Check.due("x10", x.register(0, 10), m);
        Check.due("told", x.told(0, 5), m);
    }

    @Says("Else, or where a number isn't so: FAULT 3")
    static void thereAreCalls0To4AndNoOthers() {
        int[] numbers = {-2048, -1, 0, 1, 2, 3, 4, 5, 6, 100, Rig.MIN, Rig.MAX};
        for (int n : numbers) {
            SeparationMonitor x = Rig.set(Rig.STOP, 8, Asm.liHigh(15, n), Asm.liLow(15, n), Asm.CALL);
            x.channel(0, 0, 1, 1);
            Rig.dueFault("call " + n, n >= 0 && n <= 4 ? 0 : 3, x, 3);
        }
    }
}
