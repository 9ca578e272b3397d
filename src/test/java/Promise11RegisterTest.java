/** register. */
@Of("Promise 11")
public final class Promise11RegisterTest {
    public static void main(String[] args) {
        Tests.run(Promise11RegisterTest.class);
    }

    private static SeparationMonitor filled() {
        int[] program = new int[16];
        for (int r = 0; r < 16; r++) {
            program[r] = Asm.addi(r, 0, 100 + r);
        }
        SeparationMonitor x = Rig.booted(Rig.STOP, 20, program);
        x.run(16);
        return x;
    }

    @Says("REGISTER r (0 .. 15; 16: PC)")
    static void registers0To15AndThePc() {
        SeparationMonitor x = filled();
        Check.due("x0", x.register(0, 0), 0);
        for (int r = 1; r < 16; r++) {
            Check.due("x" + r, x.register(0, r), 100 + r);
        }
        Check.due("PC", x.register(0, 16), 64);
    }

    @Says("REGISTER r (0 .. 15; 16: PC)")
    static void thereAreNoOthers() {
        SeparationMonitor x = filled();
        int[] none = {-1, 17, 32, Rig.MIN, Rig.MAX};
        for (int r : none) {
            Check.bad("register(0, " + r + ")", Check.call(() -> x.register(0, r)));
        }
    }

    @Says("of PARTITION p")
    static void eachPartitionHasItsOwn() {
        SeparationMonitor x = filled();
        for (int p = 1; p < 4; p++) {
            for (int r = 0; r <= 16; r++) {
                Check.due("register(" + p + ", " + r + ")", x.register(p, r), 0);
            }
        }
    }

    @Says("of PARTITION p")
    static void thereArePartitions0To3() {
        SeparationMonitor x = filled();
        int[] none = {-1, 4, Rig.MIN, Rig.MAX};
        for (int p : none) {
            Check.bad("register(" + p + ", 1)", Check.call(() -> x.register(p, 1)));
        }
    }

    @Says("of PARTITION p")
    static void oneThatIsStoppedHasItsRegistersStill() {
        SeparationMonitor x = filled();
        x.run(20);
        Check.due("ready", x.told(0, 0), 0);
        Check.due("x15", x.register(0, 15), 115);
        Check.due("PC", x.register(0, 16), 64);
    }

    @Says("Not now if it isn't BOOTED")
    static void notNowIfItIsNotBooted() {
        SeparationMonitor x = Rig.set(Rig.STOP, 1, Rig.LOOP);
        Check.notNow("register before boot", Check.call(() -> x.register(0, 0)));
        Check.notNow("PC before boot", Check.call(() -> x.register(0, 16)));
        x.boot();
        Check.fine("register", Check.call(() -> x.register(0, 0)));
        x.reset();
        Check.notNow("register after reset", Check.call(() -> x.register(0, 1)));
        Check.notNow("PC after reset", Check.call(() -> x.register(0, 16)));
    }
}
