/** memory. */
@Of("Promise 12")
public final class Promise12MemoryTest {
    public static void main(String[] args) {
        Tests.run(Promise12MemoryTest.class);
    }

    @Says("MEMORY's WORD i")
    static void wordsOutsideOfMemoryAreBadAtAnyTime() {
        SeparationMonitor x = Rig.set(Rig.STOP, 1, Rig.LOOP);
        int[] outside = {-1, 96, 97, Rig.MIN, Rig.MAX};
        for (int i : outside) {
            Check.bad("memory(" + i + ")", Check.call(() -> x.memory(i)));
        }
        x.boot();
        for (int i : outside) {
            Check.bad("memory(" + i + ") when booted", Check.call(() -> x.memory(i)));
        }
    }

    @Says("MEMORY's WORD i")
    static void theFirstAndTheLastWord() {
        SeparationMonitor x = new SeparationMonitor(1);
        x.load(0, Rig.MIN);
        x.load(95, Rig.MAX);
        Check.due("memory(0)", x.memory(0), Rig.MIN);
        Check.due("memory(1)", x.memory(1), 0);
        Check.due("memory(94)", x.memory(94), 0);
        Check.due("memory(95)", x.memory(95), Rig.MAX);
    }

    @Says("MEMORY's WORD i")
    static void itIsToldSettingUpAndBootedAndAfterAReset() {
        SeparationMonitor x = Rig.set(Rig.STOP, 4, Asm.addi(1, 0, -3), Asm.sw(1, 0, 12));
        x.load(3, 4);
        x.boot();
        Check.due("memory(11) booted", x.memory(11), 0);
        x.run(2);
        Check.due("memory(11) written", x.memory(11), -3);
        Check.due("memory(3), of no region", x.memory(3), 4);
        x.reset();
        Check.due("memory(11) after reset", x.memory(11), -3);
        Check.due("memory(3) after reset", x.memory(3), 4);
    }
}
