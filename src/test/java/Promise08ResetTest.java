/** reset. */
@Of("Promise 8")
public final class Promise08ResetTest {
    public static void main(String[] args) {
        Tests.run(Promise08ResetTest.class);
    }

    @Says("SETTING UP again")
    static void itCanBeSetUpAgain() {
        SeparationMonitor x = Rig.booted(Rig.STOP, 4, Rig.LOOP);
        x.run(3);
        x.reset();
        Check.due("booted", x.count(0), 0);
        Check.fine("region", () -> x.region(0, 50, 3));
        Check.fine("load", () -> x.load(50, Rig.LOOP));
        Check.fine("policy", () -> x.policy(0, 1));
        Check.fine("window", Check.call(() -> x.window(0, 2)));
        Check.fine("channel", () -> x.channel(0, 0, 0, 1));
        Check.notNow("run", Check.call(() -> x.run(1)));
        Check.notNow("quote", Check.call(() -> x.quote(1)));
        Check.notNow("register", Check.call(() -> x.register(0, 0)));
        Check.fine("boot", Check.call(x::boot));
    }

    private static SeparationMonitor ran() {
        SeparationMonitor x = Rig.set(Rig.SKIP, 6, Asm.addi(1, 0, 99), Asm.sw(1, 0, 20), Asm.lui(2, 1),
                Asm.sw(1, 2, 8), Asm.CALL);
        x.channel(2, 0, 1, 50);
        x.window(1, 7);
        x.boot();
        x.run(27);
        x.reset();
        return x;
    }

    @Says("MEMORY")
    static void memoryStaysAsItIs() {
        SeparationMonitor x = ran();
        Check.due("a word that was written", x.memory(Rig.FIRST + 5), 99);
        Check.due("a word that was not", x.memory(Rig.FIRST), Asm.addi(1, 0, 99));
    }

    @Says("MEMORY and all that was set up stay as they are")
    static void whatARestarterWroteStays() {
        SeparationMonitor x = Rig.booted(Rig.RESTART, 3, Asm.addi(1, 0, 99), Asm.sw(1, 0, 8));
        x.run(2);
        x.reset();
        Check.due("the word is not that of the image", x.memory(Rig.FIRST + 2), 99);
    }

    @Says("all that was set up stay as they are")
    static void regionsPoliciesAndWindowsStay() {
        SeparationMonitor x = ran();
        Rig.dueTold(x, 0, 0, 0, 0, 0, 0, 0, 2, Rig.FIRST, 6);
        Check.due("windows", x.count(6), 2);
        x.boot();
        Rig.dueCounts(x, 1, 0, 0, 20);
        x.run(20);
        Rig.dueCounts(x, 1, 20, 1, 7);
    }

    @Says("all that was set up stay as they are")
    static void channelsKeepSourceReadersAndPeriod() {
        SeparationMonitor x = ran();
        Rig.place(x, 0, Rig.FIRST, 8, Asm.lui(2, 1), Asm.sw(2, 2, 8), Asm.lw(3, 2, 8), Asm.addi(15, 0, Asm.AGE),
                Asm.addi(10, 0, 2), Asm.CALL);
        x.boot();
        x.run(6);
        Check.due("faults", x.told(0, 1), 0);
        Check.due("value", x.object(2, 0), 4096);
        Check.due("read", x.register(0, 3), 4096);
        Check.due("age", x.register(0, 10), 4);
    }

    @Says("Not now if it isn't BOOTED")
    static void notNowIfItIsNotBooted() {
        SeparationMonitor x = new SeparationMonitor(1);
        Check.notNow("reset of a new object", x::reset);
        x.window(0, 1);
        Check.notNow("reset before boot", x::reset);
        x.boot();
        Check.fine("reset", x::reset);
        Check.notNow("reset twice", x::reset);
        Check.due("windows", x.count(6), 1);
    }
}
