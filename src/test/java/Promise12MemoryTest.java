/** Promise 12: memory. */
public final class Promise12MemoryTest {
    public static void main(String[] args) {
        SeparationMonitor x = Rig.set(Rig.STOP, 4, Asm.addi(1, 0, -3), Asm.sw(1, 0, 12));
        x.load(0, 5);
        x.load(95, 6);
        Check.due("memory(0)", x.memory(0), 5);
        Check.due("memory(95)", x.memory(95), 6);
        Check.due("memory(1)", x.memory(1), 0);
        x.boot();
        Check.due("memory(11) booted", x.memory(11), 0);
        x.run(2);
        Check.due("memory(11) written", x.memory(11), -3);
        Check.due("memory(3) not written", x.memory(3), 0);
        x.reset();
        Check.due("memory(11) after reset", x.memory(11), -3);
        int[] outside = {-1, 96, Integer.MIN_VALUE, Integer.MAX_VALUE};
        for (int i : outside) {
            Check.bad("memory(" + i + ")", Check.call(() -> x.memory(i)));
        }
        Check.done();
    }
}
