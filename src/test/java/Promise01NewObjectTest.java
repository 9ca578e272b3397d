/** A new object is setting up, with the key. */
@Of("Promise 1")
public final class Promise01NewObjectTest {
    public static void main(String[] args) {
        Tests.run(Promise01NewObjectTest.class);
    }

    @Says("SETTING UP")
    static void everythingIsAtItsFirstValue() {
        SeparationMonitor x = new SeparationMonitor(5);
        for (int i = 0; i < 96; i++) {
            Check.due("memory(" + i + ")", x.memory(i), 0);
        }
        for (int p = 0; p < 4; p++) {
            Rig.dueTold(x, p, 0, 0, 0, 0, 0, 0, 0, 0, 0);
        }
        for (int c = 0; c < 4; c++) {
            int[] dues = {0, -1, 0, 0};
            for (int what = 0; what < 4; what++) {
                Check.due("object(" + c + ", " + what + ")", x.object(c, what), dues[what]);
            }
        }
        Rig.dueCounts(x, 0, 0, 0, 0, 0, 0, 0, 0);
    }

    @Says("SETTING UP")
    static void aNewObjectIsNotBooted() {
        SeparationMonitor x = new SeparationMonitor(5);
        Check.notNow("run", Check.call(() -> x.run(1)));
        Check.notNow("reset", x::reset);
        Check.fine("load", () -> x.load(0, 1));
    }

    @Says("with THE KEY")
    static void anyIntMayBeTheKey() {
        int[] keys = {0, 1, -1, 12345, Rig.MIN, Rig.MAX};
        for (int key : keys) {
            SeparationMonitor x = new SeparationMonitor(key);
            x.window(0, 1);
            x.boot();
            Check.due("quote(3) with the key " + key, x.quote(3), Asm.h(Asm.h(key, 3), 0));
        }
    }

    @Says("with THE KEY")
    static void theKeyIsInWhatIsSealed() {
        int[] keys = {0, -1, Rig.MIN, Rig.MAX};
        for (int key : keys) {
            SeparationMonitor x = new SeparationMonitor(key);
            Rig.place(x, 0, 0, 2, Asm.addi(15, 0, Asm.SEAL), Asm.CALL);
            x.window(0, 2);
            x.boot();
            x.run(2);
            Check.due("held with the key " + key, x.object(0, 2), Asm.h(key, x.told(0, 5)));
        }
    }

    @Says("`SeparationMonitor(int key)`")
    static void objectsShareNothing() {
        SeparationMonitor x = new SeparationMonitor(1);
        SeparationMonitor y = new SeparationMonitor(2);
        x.load(0, 9);
        x.window(0, 1);
        x.boot();
        Check.due("memory(0) of another object", y.memory(0), 0);
        Check.due("count(0) of another object", y.count(0), 0);
        Check.due("count(6) of another object", y.count(6), 0);
        y.window(0, 1);
        y.boot();
        Check.due("quote(3) of the first object", x.quote(3), Asm.h(Asm.h(1, 3), 0));
    }
}
