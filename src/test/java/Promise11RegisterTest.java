/** Promise 11: register. */
public final class Promise11RegisterTest {
    public static void main(String[] args) {
        int[] program = new int[16];
        for (int r = 0; r < 16; r++) {
            program[r] = Asm.addi(r, 0, 100 + r);
        }
        SeparationMonitor x = Rig.set(Rig.STOP, 20, program);
        Check.notNow("register before boot", Check.call(() -> x.register(0, 0)));
        Check.bad("bad register before boot", Check.call(() -> x.register(0, 17)));
        x.boot();
        x.run(16);
        Check.due("x0", x.register(0, 0), 0);
        for (int r = 1; r < 16; r++) {
            Check.due("x" + r, x.register(0, r), 100 + r);
        }
        Check.due("PC", x.register(0, 16), 64);
        for (int r = 0; r <= 16; r++) {
            Check.due("another partition's " + r, x.register(1, r), 0);
        }
        int[][] calls = {{-1, 0}, {4, 0}, {0, -1}, {0, 17}, {Integer.MAX_VALUE, 0}, {0, Integer.MIN_VALUE}};
        for (int[] c : calls) {
            Check.bad("register(" + c[0] + ", " + c[1] + ")", Check.call(() -> x.register(c[0], c[1])));
        }
        x.reset();
        Check.notNow("register after reset", Check.call(() -> x.register(0, 1)));
        Check.done();
    }
}
