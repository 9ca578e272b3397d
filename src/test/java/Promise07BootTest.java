/** boot. What is new then is in TermBootingTest. */
@Of("Promise 7")
public final class Promise07BootTest {
    public static void main(String[] args) {
        Tests.run(Promise07BootTest.class);
    }

    @Says("BOOTS")
    static void itIsBootedAfterwards() {
        SeparationMonitor x = Rig.set(Rig.STOP, 2, Rig.LOOP);
        Check.due("booted before", x.count(0), 0);
        x.boot();
        Check.due("booted", x.count(0), 1);
        Check.due("how often", x.count(7), 1);
        Check.due("begun", x.run(5), 5);
    }

    @Says("Not now if BOOTED")
    static void notNowIfBooted() {
        SeparationMonitor x = Rig.booted(Rig.STOP, 2, Rig.LOOP);
        x.run(7);
        Check.notNow("boot when booted", Check.call(x::boot));
        Check.due("how often", x.count(7), 1);
        Check.due("time", x.count(1), 7);
        x.reset();
        Check.fine("boot after reset", Check.call(x::boot));
        Check.due("how often", x.count(7), 2);
    }

    @Says("or without WINDOWS")
    static void notNowWithoutWindows() {
        SeparationMonitor x = new SeparationMonitor(1);
        Rig.place(x, 0, 0, 1, Rig.LOOP);
        Check.notNow("boot without windows", Check.call(x::boot));
        Check.due("booted", x.count(0), 0);
        Check.due("how often", x.count(7), 0);
        x.window(0, 1);
        Check.fine("boot with one window", Check.call(x::boot));
    }

    @Says("Answers THE LOG")
    static void theLogOfFourRegions() {
        SeparationMonitor x = new SeparationMonitor(1);
        for (int i = 0; i < 96; i++) {
            x.load(i, i * 77777 - 1234567);
        }
        int[][] regions = {{60, 32}, {92, 4}, {5, 1}, {10, 7}};
        int log = 0;
        for (int p = 0; p < 4; p++) {
            x.region(p, regions[p][0], regions[p][1]);
            log = Asm.h(log, Rig.measured(x, regions[p][0], regions[p][1]));
        }
        x.window(1, 1);
        Check.due("boot()", x.boot(), log);
        Check.due("count(4)", x.count(4), log);
    }

    /** Reckoned outside of Java: H(0, H(H(95, 1), 7)). */
    @Says("Answers THE LOG")
    static void theLogOfOneWord() {
        SeparationMonitor x = new SeparationMonitor(1);
        Rig.place(x, 2, 95, 1, 7);
        x.window(0, 1);
        Check.due("boot()", x.boot(), 1437208573);
    }

    @Says("Answers THE LOG")
    static void theLogIs0WithoutRegions() {
        SeparationMonitor x = new SeparationMonitor(1);
        x.window(0, 1);
        Check.due("boot()", x.boot(), 0);
    }
}
