/** Promise 3: load. */
public final class Promise03LoadTest {
    public static void main(String[] args) {
        SeparationMonitor x = new SeparationMonitor(1);
        for (int i = 0; i < 96; i++) {
            x.load(i, i * 1000 - 7);
        }
        for (int i = 0; i < 96; i++) {
            Check.due("memory(" + i + ")", x.memory(i), i * 1000 - 7);
        }
        x.load(95, Integer.MIN_VALUE);
        Check.due("memory(95)", x.memory(95), Integer.MIN_VALUE);
        Check.due("memory(94)", x.memory(94), 94 * 1000 - 7);
        int[] outside = {-1, 96, Integer.MIN_VALUE, Integer.MAX_VALUE};
        for (int i : outside) {
            Check.bad("load(" + i + ", 1)", () -> x.load(i, 1));
        }
        x.window(0, 1);
        x.boot();
        Check.notNow("load when booted", () -> x.load(0, 1));
        Check.bad("bad load when booted", () -> x.load(96, 1));
        Check.due("memory(0)", x.memory(0), -7);
        x.reset();
        x.load(0, 1);
        Check.due("memory(0) after reset", x.memory(0), 1);
        Check.done();
    }
}
