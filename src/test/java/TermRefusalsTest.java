/** Calls that are refused: which exception comes first, and that they change nothing. */
@Of("\"Bad\"")
public final class TermRefusalsTest {
    public static void main(String[] args) {
        Tests.run(TermRefusalsTest.class);
    }

    @Says("\"Bad\" is IllegalArgumentException, a number out of range; it comes first")
    static void badComesBeforeNotNowWhenBooted() {
        SeparationMonitor x = Rig.booted(Rig.STOP, 4, Rig.LOOP);
        Check.bad("region of 4", () -> x.region(4, 0, 1));
        Check.bad("region from -1", () -> x.region(1, -1, 1));
        Check.bad("region from 96", () -> x.region(1, 96, 0));
        Check.bad("region of -1 words", () -> x.region(1, 0, -1));
        Check.bad("region of 33 words", () -> x.region(1, 40, 33));
        Check.bad("region out of memory", () -> x.region(1, 95, 2));
        Check.bad("load of 96", () -> x.load(96, 1));
        Check.bad("load of -1", () -> x.load(-1, 1));
        Check.bad("policy of -1", () -> x.policy(-1, 1));
        Check.bad("policy 3", () -> x.policy(0, 3));
        Check.bad("window of 4", Check.call(() -> x.window(4, 1)));
        Check.bad("window of 0 ticks", Check.call(() -> x.window(0, 0)));
        Check.bad("window of 21 ticks", Check.call(() -> x.window(0, 21)));
        Check.bad("channel 4", () -> x.channel(4, 0, 0, 1));
        Check.bad("channel from -2", () -> x.channel(0, -2, 0, 1));
        Check.bad("channel to 16", () -> x.channel(0, 0, 16, 1));
        Check.bad("channel with a period of 0", () -> x.channel(0, 0, 0, 0));
    }

    @Says("\"Bad\" is IllegalArgumentException, a number out of range; it comes first")
    static void badComesBeforeNotNowWhenNotBooted() {
        SeparationMonitor x = Rig.set(Rig.STOP, 4, Rig.LOOP);
        Check.bad("run(0)", Check.call(() -> x.run(0)));
        Check.bad("run(401)", Check.call(() -> x.run(401)));
        Check.bad("register of 4", Check.call(() -> x.register(4, 0)));
        Check.bad("register 17", Check.call(() -> x.register(0, 17)));
        Check.bad("register -1", Check.call(() -> x.register(0, -1)));
    }

    @Says("\"Bad\" is IllegalArgumentException, a number out of range; it comes first")
    static void badComesBeforeTheSixWindows() {
        SeparationMonitor x = new SeparationMonitor(1);
        for (int n = 0; n < 6; n++) {
            x.window(0, 1);
        }
        Check.bad("a seventh window of 21 ticks", Check.call(() -> x.window(0, 21)));
        Check.bad("a seventh window of -1", Check.call(() -> x.window(-1, 1)));
        Check.notNow("a seventh window", Check.call(() -> x.window(0, 1)));
    }

    @Says("\"Bad\" is IllegalArgumentException, a number out of range; it comes first")
    static void badComesBeforeAnOverlap() {
        SeparationMonitor x = new SeparationMonitor(1);
        x.region(1, 80, 10);
        Check.bad("out of memory and over another's", () -> x.region(0, 85, 32));
        Check.bad("33 words over another's", () -> x.region(0, 60, 33));
    }

    @Says("\"Not now\" is IllegalStateException: SETTING UP when BOOTED")
    static void nothingIsSetUpWhenBooted() {
        SeparationMonitor x = Rig.booted(Rig.STOP, 4, Rig.LOOP);
        Check.notNow("region", () -> x.region(1, 50, 1));
        Check.notNow("an empty region", () -> x.region(1, 0, 0));
        Check.notNow("its own region", () -> x.region(0, Rig.FIRST, 4));
        Check.notNow("load", () -> x.load(0, 0));
        Check.notNow("policy", () -> x.policy(0, 0));
        Check.notNow("window", Check.call(() -> x.window(0, 1)));
        Check.notNow("channel", () -> x.channel(0, -1, 0, 1));
        Check.notNow("boot", Check.call(x::boot));
    }

    @Says("or what needs it BOOTED otherwise")
    static void nothingIsRunUntilItIsBooted() {
        SeparationMonitor x = Rig.set(Rig.STOP, 4, Rig.LOOP);
        for (int round = 0; round < 2; round++) {
            Check.notNow("reset", x::reset);
            Check.notNow("run", Check.call(() -> x.run(1)));
            Check.notNow("quote", Check.call(() -> x.quote(1)));
            Check.notNow("register", Check.call(() -> x.register(0, 0)));
            x.boot();
            x.reset();
        }
    }

    private static SeparationMonitor allSetUp() {
        SeparationMonitor x = new SeparationMonitor(3);
        Rig.place(x, 0, 8, 6, Asm.lui(1, 1), Asm.sw(1, 1, 0), Rig.LOOP);
        Rig.place(x, 1, 20, 2, Asm.BREAK, Rig.LOOP);
        x.policy(1, Rig.SKIP);
        x.channel(0, 0, 2, 7);
        x.window(0, 3);
        x.window(1, 2);
        return x;
    }

    /** All that can be asked of both is the same. */
    private static void dueSame(SeparationMonitor x, SeparationMonitor y) {
        for (int i = 0; i < 96; i++) {
            Check.due("memory(" + i + ")", x.memory(i), y.memory(i));
        }
        for (int p = 0; p < 4; p++) {
            for (int what = 0; what <= 8; what++) {
                Check.due("told(" + p + ", " + what + ")", x.told(p, what), y.told(p, what));
            }
            for (int what = 0; what <= 3; what++) {
                Check.due("object(" + p + ", " + what + ")", x.object(p, what), y.object(p, what));
            }
        }
        for (int what = 0; what <= 7; what++) {
            Check.due("count(" + what + ")", x.count(what), y.count(what));
        }
    }

    @Says("\"Bad\" is IllegalArgumentException")
    static void aRefusedCallOfSettingUpChangesNothing() {
        SeparationMonitor x = allSetUp();
        Check.bad("region", () -> x.region(0, 9, 33));
        Check.overlap("region", () -> x.region(0, 18, 3));
        Check.bad("load", () -> x.load(96, 1));
        Check.bad("policy", () -> x.policy(1, 3));
        Check.bad("window", Check.call(() -> x.window(1, 21)));
        Check.bad("channel", () -> x.channel(0, 1, 3, 101));
        Check.bad("channel", () -> x.channel(0, 4, 3, 50));
        Check.bad("channel", () -> x.channel(0, 1, 16, 50));
        Check.notNow("reset", x::reset);
        Check.notNow("run", Check.call(() -> x.run(3)));
        dueSame(x, allSetUp());
        SeparationMonitor y = allSetUp();
        Check.due("boot", x.boot(), y.boot());
        Check.due("run", x.run(13), y.run(13));
        dueSame(x, y);
    }

    @Says("\"Not now\" is IllegalStateException")
    static void aRefusedCallWhenBootedChangesNothing() {
        SeparationMonitor x = allSetUp();
        SeparationMonitor y = allSetUp();
        x.boot();
        y.boot();
        x.run(4);
        y.run(4);
        Check.notNow("region", () -> x.region(0, 8, 7));
        Check.notNow("load", () -> x.load(9, 1));
        Check.notNow("policy", () -> x.policy(1, 1));
        Check.notNow("window", Check.call(() -> x.window(1, 2)));
        Check.notNow("channel", () -> x.channel(0, 1, 3, 50));
        Check.notNow("boot", Check.call(x::boot));
        Check.bad("run", Check.call(() -> x.run(401)));
        Check.bad("run", Check.call(() -> x.run(0)));
        dueSame(x, y);
        Check.due("run", x.run(13), y.run(13));
        dueSame(x, y);
    }
}
