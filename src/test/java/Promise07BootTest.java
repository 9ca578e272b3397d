/** Promise 7: boot. */
public final class Promise07BootTest {
    public static void main(String[] args) {
        notNowWithoutWindowsOrWhenBooted();
        theLogGoesOverThePartitionsInOrder();
        partitionsWithoutWordsAreStopped();
        theStateIsNew();
        channelsAreEmpty();
        aPartitionThatLostItsRegionHasNoState();
        Check.done();
    }

    private static void notNowWithoutWindowsOrWhenBooted() {
        SeparationMonitor x = new SeparationMonitor(1);
        Check.notNow("boot without windows", Check.call(x::boot));
        Check.due("count(7)", x.count(7), 0);
        x.window(0, 1);
        Check.due("boot without regions", x.boot(), 0);
        Check.notNow("boot when booted", Check.call(x::boot));
        Check.due("count(7)", x.count(7), 1);
    }

    private static int measured(SeparationMonitor x, int first, int size) {
        int m = Asm.h(first, size);
        for (int i = first; i < first + size; i++) {
            m = Asm.h(m, x.memory(i));
        }
        return m;
    }

    private static void theLogGoesOverThePartitionsInOrder() {
        SeparationMonitor x = new SeparationMonitor(1);
        for (int i = 0; i < 96; i++) {
            x.load(i, i * 77777 - 1234567);
        }
        x.region(0, 60, 32);
        x.region(2, 5, 1);
        x.region(3, 10, 7);
        x.window(1, 1);
        int m0 = measured(x, 60, 32);
        int m2 = measured(x, 5, 1);
        int m3 = measured(x, 10, 7);
        int log = Asm.h(Asm.h(Asm.h(0, m0), m2), m3);
        Check.due("boot()", x.boot(), log);
        Check.due("count(4)", x.count(4), log);
        Check.due("measurement of 0", x.told(0, 5), m0);
        Check.due("measurement of 1", x.told(1, 5), 0);
        Check.due("measurement of 2", x.told(2, 5), m2);
        Check.due("measurement of 3", x.told(3, 5), m3);
        x.reset();
        Check.due("the log begins at 0 again", x.boot(), log);
        x.reset();
        x.load(16, 1);
        Check.due("another word, another log", x.boot(), Asm.h(Asm.h(Asm.h(0, m0), m2), measured(x, 10, 7)));
    }

    private static void partitionsWithoutWordsAreStopped() {
        SeparationMonitor x = new SeparationMonitor(1);
        x.region(1, 4, 1);
        x.window(0, 5);
        x.boot();
        Check.due("ready 0", x.told(0, 0), 0);
        Check.due("ready 1", x.told(1, 0), 1);
        Check.due("instructions", x.run(5), 0);
    }

    private static void theStateIsNew() {
        SeparationMonitor x = Rig.booted(Rig.RESTART, 6, Asm.addi(1, 0, 5), Asm.CALL);
        x.run(20);
        x.reset();
        x.load(Rig.FIRST + 1, Asm.BREAK);
        x.boot();
        x.run(50);
        Check.due("restarts before", x.told(0, 3), 3);
        x.reset();
        x.load(Rig.FIRST + 1, Asm.addi(2, 0, 6));
        x.boot();
        int[] dues = {1, 0, 0, 0, 0, measured(x, Rig.FIRST, 6)};
        for (int what = 0; what < dues.length; what++) {
            Check.due("told(0, " + what + ")", x.told(0, what), dues[what]);
        }
        for (int r = 0; r <= 16; r++) {
            Check.due("register " + r, x.register(0, r), 0);
        }
        Check.due("time", x.count(1), 0);
        Check.due("window", x.count(2), 0);
        Check.due("ticks left", x.count(3), 20);
        Check.due("windows begun", x.count(5), 1);
        Check.due("it isn't resting", x.run(2), 2);
        Check.due("x2", x.register(0, 2), 6);
    }

    private static void channelsAreEmpty() {
        SeparationMonitor x = Rig.set(Rig.STOP, 3, Asm.lui(1, 1), Asm.sw(1, 1, 0));
        x.channel(0, 0, 1, 5);
        x.boot();
        x.run(2);
        Check.due("value before", x.object(0, 0), 4096);
        x.reset();
        x.load(Rig.FIRST + 1, Asm.lw(2, 1, 0));
        x.boot();
        Check.due("value", x.object(0, 0), 0);
        Check.due("hour", x.object(0, 1), -1);
        x.run(2);
        Check.due("fault", x.told(0, 1), 0);
        Check.due("read", x.register(0, 2), 0);
    }

    private static void aPartitionThatLostItsRegionHasNoState() {
        SeparationMonitor x = Rig.booted(Rig.STOP, 2, Asm.addi(1, 0, 5), Asm.BREAK);
        x.run(5);
        x.reset();
        x.region(0, 0, 0);
        Check.due("boot()", x.boot(), 0);
        for (int what = 0; what <= 5; what++) {
            Check.due("told(0, " + what + ")", x.told(0, what), 0);
        }
        for (int r = 0; r <= 16; r++) {
            Check.due("register " + r, x.register(0, r), 0);
        }
        Check.due("instructions", x.run(20), 0);
    }
}
