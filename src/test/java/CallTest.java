/** The calls that an instruction 115 makes, by x15. */
public final class CallTest {
    public static void main(String[] args) {
        yielding();
        ageOfAChannel();
        ageIsForReadersOfChannelsThereAre();
        sealing();
        openingByTheSameMeasurement();
        notOpeningByAnother();
        slotsThatAreNot();
        measurement();
        otherCallsFault();
        Check.done();
    }

    private static void yielding() {
        SeparationMonitor x = Rig.booted(Rig.STOP, 3, Asm.addi(10, 0, 3), Asm.CALL, Asm.addi(1, 0, 1));
        Check.due("begun", x.run(20), 2);
        Check.due("x10 stays", x.register(0, 10), 3);
        Check.due("PC", x.register(0, 16), 8);
        Check.due("ready", x.told(0, 0), 1);
        Check.due("faults", x.told(0, 1), 0);
        x.run(1);
        Check.due("x1 in the next window", x.register(0, 1), 1);
    }

    /** Written at hour 3, asked at hour 6 and 8, of channel 2. */
    private static SeparationMonitor asker(int period) {
        SeparationMonitor x = Rig.set(Rig.STOP, 16, Asm.lui(1, 1), Asm.addi(15, 0, Asm.AGE), Asm.sw(0, 1, 8),
                Asm.addi(2, 0, 5), Asm.addi(10, 0, 2), Asm.CALL, Asm.addi(10, 0, 2), Asm.CALL);
        x.channel(2, 0, 1, period);
        x.boot();
        x.run(6);
        return x;
    }

    private static void ageOfAChannel() {
        int[][] dues = {{1, -1, -1}, {2, -1, -1}, {3, 3, -1}, {4, 3, -1}, {5, 3, 5}, {100, 3, 5}};
        for (int[] due : dues) {
            SeparationMonitor x = asker(due[0]);
            Check.due("age with period " + due[0], x.register(0, 10), due[1]);
            x.run(2);
            Check.due("age with period " + due[0] + ", later", x.register(0, 10), due[2]);
            Check.due("faults", x.told(0, 1), 0);
            Check.due("PC", x.register(0, 16), 32);
        }
        SeparationMonitor x = Rig.set(Rig.STOP, 3, Asm.addi(15, 0, Asm.AGE), Asm.CALL);
        x.channel(0, -1, 1, 100);
        x.boot();
        x.run(2);
        Check.due("age of an empty channel", x.register(0, 10), -1);
    }

    private static void ageIsForReadersOfChannelsThereAre() {
        for (int c = -1; c <= 4; c++) {
            for (int open = 0; open < 4; open++) {
                SeparationMonitor x = Rig.set(Rig.STOP, 3, Asm.addi(15, 0, Asm.AGE), Asm.addi(10, 0, c), Asm.CALL);
                for (int k = 0; k < 4; k++) {
                    x.channel(k, 0, k == open ? 1 : 14, 100);
                }
                x.boot();
                x.run(3);
                Check.due("age of " + c + " where it may read " + open, x.told(0, 2), c == open ? 0 : 3);
                Check.due("x10", x.register(0, 10), c == open ? -1 : c);
            }
        }
    }

    private static int[] sealer(int slot, int secret) {
        return new int[] {Asm.addi(15, 0, Asm.SEAL), Asm.addi(10, 0, slot), Asm.liHigh(11, secret),
            Asm.liLow(11, secret), Asm.CALL};
    }

    private static void sealing() {
        int[] secrets = {0, 1, -1, 0x12345678, Integer.MIN_VALUE};
        for (int slot = 0; slot < 4; slot++) {
            for (int secret : secrets) {
                SeparationMonitor x = Rig.done(sealer(slot, secret));
                int m = x.told(0, 5);
                Check.due("faults", x.told(0, 1), 0);
                Check.due("held", x.object(slot, 2), secret ^ Asm.h(Rig.KEY, m));
                Check.due("mark", x.object(slot, 3), Asm.h(Asm.h(Rig.KEY, secret), m));
                Check.due("another slot's mark", x.object((slot + 1) % 4, 3), 0);
                Check.due("x10 stays", x.register(0, 10), slot);
                Check.due("x11 stays", x.register(0, 11), secret);
            }
        }
    }

    private static void openingByTheSameMeasurement() {
        for (int slot = 0; slot < 4; slot++) {
            SeparationMonitor x = Rig.booted(Rig.STOP, 12, Asm.addi(15, 0, Asm.SEAL), Asm.addi(10, 0, slot),
                    Asm.addi(11, 0, -77), Asm.CALL, Asm.addi(15, 0, Asm.OPEN), Asm.addi(11, 0, 0), Asm.CALL);
            x.run(6);
            Check.due("x11 before", x.register(0, 11), 0);
            x.run(1);
            Check.due("x10", x.register(0, 10), 1);
            Check.due("x11", x.register(0, 11), -77);
            Check.due("the slot still holds it", x.object(slot, 2), -77 ^ Asm.h(Rig.KEY, x.told(0, 5)));
            Check.due("PC", x.register(0, 16), 28);
        }
    }

    private static void notOpeningByAnother() {
        SeparationMonitor x = new SeparationMonitor(Rig.KEY);
        Rig.place(x, 0, 0, 8, sealer(1, 4321));
        int[] opener = {Asm.addi(15, 0, Asm.OPEN), Asm.addi(10, 0, 1), Asm.addi(11, 0, 5), Asm.CALL};
        Rig.place(x, 1, 20, 8, opener);
        x.window(0, 5);
        x.window(1, 5);
        x.boot();
        x.run(9);
        Check.due("faults", x.told(1, 1), 0);
        Check.due("x10", x.register(1, 10), 0);
        Check.due("x11 stays", x.register(1, 11), 5);
        int held = x.object(1, 2);
        x.reset();
        Rig.place(x, 0, 0, 8, opener);
        x.boot();
        x.run(4);
        Check.due("the same partition with another image", x.register(0, 10), 0);
        Check.due("x11 stays", x.register(0, 11), 5);
        Check.due("the slot stays", x.object(1, 2), held);
        SeparationMonitor fresh = Rig.done(Asm.addi(15, 0, Asm.OPEN), Asm.addi(11, 0, 5), Asm.CALL);
        Check.due("x10, of a slot never sealed", fresh.register(0, 10), 0);
        Check.due("x11, of a slot never sealed", fresh.register(0, 11), 5);
    }

    private static void slotsThatAreNot() {
        int[] slots = {-1, 4, 100, -2048};
        for (int s : slots) {
            Rig.dueFault("SEAL in " + s, 3, sealer(s, 5));
            Rig.dueFault("OPEN of " + s, 3, Asm.addi(15, 0, Asm.OPEN), Asm.addi(10, 0, s), Asm.CALL);
        }
    }

    private static void measurement() {
        SeparationMonitor x = Rig.done(Asm.addi(15, 0, Asm.MEASURE), Asm.sw(15, 0, 124), Asm.CALL);
        int m = Asm.h(Rig.FIRST, 32);
        m = Asm.h(Asm.h(Asm.h(m, Asm.addi(15, 0, Asm.MEASURE)), Asm.sw(15, 0, 124)), Asm.CALL);
        for (int i = 3; i < 32; i++) {
            m = Asm.h(m, 0);
        }
        Check.due("x10 is of what was booted", x.register(0, 10), m);
    }

    private static void otherCallsFault() {
        int[] numbers = {5, 6, 100, -1, -2048};
        for (int n : numbers) {
            Rig.dueFault("call " + n, 3, Asm.addi(15, 0, n), Asm.CALL);
        }
    }
}
