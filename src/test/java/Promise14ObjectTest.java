/** object. */
@Of("Promise 14")
public final class Promise14ObjectTest {
    public static void main(String[] args) {
        Tests.run(Promise14ObjectTest.class);
    }

    @Says("CHANNEL c's")
    static void numbersAre0To3() {
        SeparationMonitor x = new SeparationMonitor(1);
        x.window(0, 1);
        int[] none = {-1, 4, Rig.MIN, Rig.MAX};
        for (int round = 0; round < 2; round++) {
            for (int c : none) {
                for (int what = 0; what < 4; what++) {
                    int w = what;
                    Check.bad("object(" + c + ", " + what + ")", Check.call(() -> x.object(c, w)));
                }
            }
            if (round == 0) {
                x.boot();
            }
        }
    }

    @Says("MARK (3)")
    static void whatIs0To3() {
        SeparationMonitor x = new SeparationMonitor(1);
        int[] none = {-1, 4, 5, Rig.MIN, Rig.MAX};
        for (int what : none) {
            Check.bad("object(0, " + what + ")", Check.call(() -> x.object(0, what)));
        }
    }

    private static SeparationMonitor writer(int value) {
        SeparationMonitor x = Rig.set(Rig.STOP, 10, Asm.lui(1, 1), Asm.addi(2, 0, value), Asm.sw(2, 1, 0));
        x.channel(0, 0, 0, 1);
        x.boot();
        return x;
    }

    @Says("value, 0 if it's empty (what 0)")
    static void anEmptyChannelHasTheValue0() {
        SeparationMonitor x = writer(8);
        x.run(2);
        Check.due("empty", x.object(0, 0), 0);
        x.run(1);
        Check.due("written", x.object(0, 0), 8);
        x.run(300);
        Check.due("written, and far older than its period", x.object(0, 0), 8);
    }

    @Says("hour, -1 if it's empty (1)")
    static void anEmptyChannelHasTheHourMinus1() {
        SeparationMonitor x = writer(8);
        x.run(2);
        Check.due("empty", x.object(0, 1), -1);
        x.run(1);
        Check.due("written", x.object(0, 1), 3);
        x.run(300);
        Check.due("later", x.object(0, 1), 3);
    }

    @Says("hour, -1 if it's empty (1)")
    static void aChannelThatHolds0IsNotEmpty() {
        SeparationMonitor x = writer(0);
        x.run(3);
        Check.due("value", x.object(0, 0), 0);
        Check.due("hour", x.object(0, 1), 3);
    }

    @Says("SLOT c's held (2), MARK (3)")
    static void channelsAndSlotsOfOneNumberAreApart() {
        SeparationMonitor x = Rig.set(Rig.STOP, 10, Asm.lui(1, 1), Asm.addi(11, 0, -7), Asm.sw(11, 1, 12),
                Asm.addi(15, 0, Asm.SEAL), Asm.addi(10, 0, 2), Asm.CALL);
        x.channel(3, 0, 0, 1);
        x.boot();
        x.run(6);
        int m = x.told(0, 5);
        int[][] dues = {
            {0, -1, 0, 0}, {0, -1, 0, 0},
            {0, -1, -7 ^ Asm.h(Rig.KEY, m), Asm.h(Asm.h(Rig.KEY, -7), m)},
            {-7, 3, 0, 0},
        };
        for (int c = 0; c < 4; c++) {
            for (int what = 0; what < 4; what++) {
                Check.due("object(" + c + ", " + what + ")", x.object(c, what), dues[c][what]);
            }
        }
    }

    @Says("SLOT c's held (2), MARK (3)")
    static void slotsAreToldWhenItIsNotBooted() {
        SeparationMonitor x = Rig.booted(Rig.STOP, 10, Asm.addi(15, 0, Asm.SEAL), Asm.addi(11, 0, 3), Asm.CALL);
        x.run(3);
        int held = x.object(0, 2);
        int mark = x.object(0, 3);
        Check.isTrue("it holds something", held != 0 && mark != 0);
        x.reset();
        Check.due("held", x.object(0, 2), held);
        Check.due("mark", x.object(0, 3), mark);
    }
}
