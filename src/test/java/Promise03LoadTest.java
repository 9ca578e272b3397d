/** load. */
@Of("Promise 3")
public final class Promise03LoadTest {
    public static void main(String[] args) {
        Tests.run(Promise03LoadTest.class);
    }

    @Says("MEMORY's WORD i becomes v")
    static void eachWordIsLoadedAlone() {
        SeparationMonitor x = new SeparationMonitor(1);
        for (int i = 0; i < 96; i++) {
            x.load(i, i * 1000 - 7);
        }
        x.load(95, Rig.MIN);
        x.load(0, Rig.MAX);
        for (int i = 1; i < 95; i++) {
            Check.due("memory(" + i + ")", x.memory(i), i * 1000 - 7);
        }
        Check.due("memory(95)", x.memory(95), Rig.MIN);
        Check.due("memory(0)", x.memory(0), Rig.MAX);
    }

    @Says("MEMORY's WORD i")
    static void wordsOutsideOfMemoryAreBad() {
        SeparationMonitor x = new SeparationMonitor(1);
        int[] outside = {-1, 96, 97, Rig.MIN, Rig.MAX};
        for (int i : outside) {
            Check.bad("load(" + i + ", 1)", () -> x.load(i, 1));
        }
        Check.due("memory(0)", x.memory(0), 0);
        Check.due("memory(95)", x.memory(95), 0);
    }

    @Says("Not now if BOOTED")
    static void notNowIfBooted() {
        SeparationMonitor x = Rig.set(Rig.STOP, 2, Rig.LOOP);
        x.load(0, -7);
        x.boot();
        Check.notNow("load when booted", () -> x.load(0, 1));
        Check.notNow("load of a word of a region", () -> x.load(Rig.FIRST, 1));
        Check.due("memory(0)", x.memory(0), -7);
        Check.due("the word of the region", x.memory(Rig.FIRST), Rig.LOOP);
        x.reset();
        Check.fine("load after reset", () -> x.load(0, 1));
        Check.due("memory(0) after reset", x.memory(0), 1);
    }
}
