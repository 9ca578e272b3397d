/** Promise 14: object. */
public final class Promise14ObjectTest {
    public static void main(String[] args) {
        numbersOutOfRangeAreBad();
        channelsAndSlotsAreTold();
        aZeroIsNoEmptiness();
        aChannelIsEmptiedOnlyByTheNextBoot();
        Check.done();
    }

    private static void numbersOutOfRangeAreBad() {
        SeparationMonitor x = new SeparationMonitor(1);
        int[][] calls = {{-1, 0}, {4, 0}, {0, -1}, {0, 4}, {Integer.MAX_VALUE, 0}, {0, Integer.MIN_VALUE}};
        for (int[] c : calls) {
            Check.bad("object(" + c[0] + ", " + c[1] + ")", Check.call(() -> x.object(c[0], c[1])));
        }
    }

    private static void channelsAndSlotsAreTold() {
        SeparationMonitor x = Rig.set(Rig.STOP, 10, Asm.lui(1, 1), Asm.addi(11, 0, -7), Asm.sw(11, 1, 12),
                Asm.addi(15, 0, Asm.SEAL), Asm.addi(10, 0, 2), Asm.CALL);
        x.channel(3, 0, 0, 1);
        x.boot();
        x.run(6);
        int m = x.told(0, 5);
        int[][] dues = {
            {0, -1, 0, 0}, {0, -1, 0, 0},
            {0, -1, -7 ^ Asm.h(Rig.KEY, m), Asm.h(Asm.h(Rig.KEY, -7), m)},
            {-7, 3, 0, 0},
        };
        for (int c = 0; c < 4; c++) {
            for (int what = 0; what < 4; what++) {
                Check.due("object(" + c + ", " + what + ")", x.object(c, what), dues[c][what]);
            }
        }
    }

    private static SeparationMonitor writer(int value) {
        SeparationMonitor x = Rig.set(Rig.STOP, 10, Asm.lui(1, 1), Asm.addi(2, 0, value), Asm.sw(2, 1, 0));
        x.channel(0, 0, 0, 1);
        x.boot();
        x.run(3);
        return x;
    }

    private static void aZeroIsNoEmptiness() {
        SeparationMonitor x = writer(0);
        Check.due("value", x.object(0, 0), 0);
        Check.due("hour", x.object(0, 1), 3);
    }

    private static void aChannelIsEmptiedOnlyByTheNextBoot() {
        SeparationMonitor x = writer(8);
        x.reset();
        Check.due("value after reset", x.object(0, 0), 8);
        Check.due("hour after reset", x.object(0, 1), 3);
        x.boot();
        Check.due("value after boot", x.object(0, 0), 0);
        Check.due("hour after boot", x.object(0, 1), -1);
    }
}
