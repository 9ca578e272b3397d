/** Promise 13: told. */
public final class Promise13ToldTest {
    public static void main(String[] args) {
        numbersOutOfRangeAreBad();
        eachWhatTellsItsOwn();
        zeroForAllIfNotBooted();
        Check.done();
    }

    private static void numbersOutOfRangeAreBad() {
        SeparationMonitor x = new SeparationMonitor(1);
        int[][] calls = {{-1, 0}, {4, 0}, {0, -1}, {0, 9}, {Integer.MIN_VALUE, 0}, {0, Integer.MAX_VALUE}};
        for (int[] c : calls) {
            Check.bad("told(" + c[0] + ", " + c[1] + ")", Check.call(() -> x.told(c[0], c[1])));
        }
    }

    private static void dueTold(SeparationMonitor x, int... dues) {
        for (int what = 0; what < dues.length; what++) {
            Check.due("told(0, " + what + ")", x.told(0, what), dues[what]);
        }
    }

    /** Faults first with 4, then, skipped to it, with 2, then goes round. */
    private static SeparationMonitor skipper() {
        return Rig.set(Rig.SKIP, 3, Asm.BREAK, Asm.lw(1, 0, 1), Asm.jal(0, -4));
    }

    private static void eachWhatTellsItsOwn() {
        SeparationMonitor x = skipper();
        int m = Asm.h(Asm.h(Asm.h(Asm.h(Rig.FIRST, 3), Asm.BREAK), Asm.lw(1, 0, 1)), Asm.jal(0, -4));
        x.boot();
        dueTold(x, 1, 0, 0, 0, 0, m, 2, Rig.FIRST, 3);
        x.run(1);
        dueTold(x, 1, 1, 4, 0, 1, m, 2, Rig.FIRST, 3);
        x.run(1);
        dueTold(x, 1, 2, 2, 0, 2, m, 2, Rig.FIRST, 3);
        x.run(1);
        dueTold(x, 1, 2, 2, 0, 3, m, 2, Rig.FIRST, 3);
        for (int what = 0; what <= 8; what++) {
            Check.due("told(1, " + what + ")", x.told(1, what), 0);
        }
    }

    private static void zeroForAllIfNotBooted() {
        SeparationMonitor x = skipper();
        dueTold(x, 0, 0, 0, 0, 0, 0, 2, Rig.FIRST, 3);
        x.boot();
        x.run(5);
        x.reset();
        dueTold(x, 0, 0, 0, 0, 0, 0, 2, Rig.FIRST, 3);
        x.boot();
        Check.due("faults since it booted", x.told(0, 1), 0);
        Check.due("latest fault since it booted", x.told(0, 2), 0);
        Check.due("instructions since it booted", x.told(0, 4), 0);
    }
}
