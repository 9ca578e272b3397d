/** What can be set up, and how it is at first. */
@Of("SETTING UP")
public final class TermSettingUpTest {
    public static void main(String[] args) {
        Tests.run(TermSettingUpTest.class);
    }

    @Says("(until it's BOOTED)")
    static void everythingCanBeSetUpUntilItIsBooted() {
        SeparationMonitor x = new SeparationMonitor(1);
        for (int round = 0; round < 2; round++) {
            Check.fine("region", () -> x.region(1, 5, 2));
            Check.fine("load", () -> x.load(5, 3));
            Check.fine("policy", () -> x.policy(1, 2));
            Check.fine("window", Check.call(() -> x.window(1, 3)));
            Check.fine("channel", () -> x.channel(1, 1, 1, 2));
            x.boot();
            Check.notNow("region when booted", () -> x.region(1, 5, 2));
            Check.notNow("load when booted", () -> x.load(5, 3));
            Check.notNow("policy when booted", () -> x.policy(1, 2));
            Check.notNow("window when booted", Check.call(() -> x.window(1, 3)));
            Check.notNow("channel when booted", () -> x.channel(1, 1, 1, 2));
            x.reset();
        }
    }

    @Says("MEMORY has 96 WORDS (ints)")
    static void thereAreWords0To95AndNoOthers() {
        SeparationMonitor x = new SeparationMonitor(1);
        for (int i = 0; i < 96; i++) {
            x.load(i, i == 0 ? Rig.MIN : i == 95 ? Rig.MAX : -i);
        }
        for (int i = 0; i < 96; i++) {
            Check.due("memory(" + i + ")", x.memory(i), i == 0 ? Rig.MIN : i == 95 ? Rig.MAX : -i);
        }
        Check.bad("load(-1, 1)", () -> x.load(-1, 1));
        Check.bad("load(96, 1)", () -> x.load(96, 1));
        Check.bad("memory(-1)", Check.call(() -> x.memory(-1)));
        Check.bad("memory(96)", Check.call(() -> x.memory(96)));
    }

    @Says("0 at first")
    static void allWordsAre0AtFirst() {
        SeparationMonitor x = new SeparationMonitor(-1);
        for (int i = 0; i < 96; i++) {
            Check.due("memory(" + i + ")", x.memory(i), 0);
        }
    }

    @Says("PARTITIONS 0 .. 3")
    static void thereArePartitions0To3AndNoOthers() {
        SeparationMonitor x = new SeparationMonitor(1);
        x.window(0, 1);
        for (int p = -1; p <= 4; p += 5) {
            int q = p;
            Check.bad("region of " + q, () -> x.region(q, 0, 0));
            Check.bad("policy of " + q, () -> x.policy(q, 0));
            Check.bad("window of " + q, Check.call(() -> x.window(q, 1)));
            Check.bad("told of " + q, Check.call(() -> x.told(q, 0)));
        }
        for (int p = 0; p < 4; p++) {
            int q = p;
            Check.fine("region of " + q, () -> x.region(q, 0, 0));
            Check.fine("policy of " + q, () -> x.policy(q, 0));
            Check.fine("window of " + q, Check.call(() -> x.window(q, 1)));
            Check.fine("told of " + q, Check.call(() -> x.told(q, 0)));
        }
        x.boot();
        Check.bad("register of -1", Check.call(() -> x.register(-1, 0)));
        Check.bad("register of 4", Check.call(() -> x.register(4, 0)));
        Check.fine("register of 0", Check.call(() -> x.register(0, 0)));
        Check.fine("register of 3", Check.call(() -> x.register(3, 0)));
    }

    @Says("its first WORD and its size, 0 at first")
    static void regionsAreEmptyAtFirst() {
        SeparationMonitor x = new SeparationMonitor(1);
        for (int p = 0; p < 4; p++) {
            Rig.dueRegion(x, p, 0, 0);
        }
        x.window(3, 1);
        x.boot();
        for (int p = 0; p < 4; p++) {
            Check.due("ready " + p, x.told(p, 0), 0);
        }
    }

    private static SeparationMonitor faulter() {
        SeparationMonitor x = new SeparationMonitor(1);
        Rig.place(x, 2, 0, 2, Asm.BREAK, Rig.LOOP);
        x.window(2, 20);
        return x;
    }

    @Says("a POLICY (0 STOP at first, 1 RESTART, 2 SKIP)")
    static void thePolicyIsStopAtFirst() {
        SeparationMonitor x = faulter();
        Check.due("policy", x.told(2, 6), 0);
        x.boot();
        Check.due("begun", x.run(20), 1);
        Check.due("ready", x.told(2, 0), 0);
    }

    @Says("0 STOP at first, 1 RESTART, 2 SKIP")
    static void eachPolicyHasItsNumber() {
        int[][] dues = {{0, 1, 0, 0}, {1, 1, 1, 1}, {2, 20, 1, 0}};
        for (int[] due : dues) {
            SeparationMonitor x = faulter();
            x.policy(2, due[0]);
            x.boot();
            Check.due("begun by policy " + due[0], x.run(20), due[1]);
            Check.due("ready by policy " + due[0], x.told(2, 0), due[2]);
            Check.due("restarts by policy " + due[0], x.told(2, 3), due[3]);
        }
    }

    @Says("WINDOWS, at most 6")
    static void aSeventhWindowIsRefused() {
        SeparationMonitor x = new SeparationMonitor(1);
        Check.due("windows at first", x.count(6), 0);
        for (int n = 1; n <= 6; n++) {
            Check.due("window " + n, x.window(0, n), n);
        }
        Check.notNow("a seventh", Check.call(() -> x.window(0, 1)));
        Check.due("windows", x.count(6), 6);
        x.boot();
        x.run(1 + 2 + 3 + 4 + 5);
        Rig.dueCounts(x, 1, 15, 5, 6);
        x.run(6);
        Rig.dueCounts(x, 1, 21, 0, 1);
    }

    @Says("in the order in which they came: a PARTITION and a length")
    static void windowsKeepTheirOrder() {
        SeparationMonitor x = new SeparationMonitor(1);
        int[] partitions = {3, 0, 2, 0, 1, 3};
        int[] lengths = {2, 20, 1, 3, 5, 4};
        for (int p = 0; p < 4; p++) {
            Rig.place(x, p, 10 * p, 1, Rig.LOOP);
        }
        for (int w = 0; w < 6; w++) {
            x.window(partitions[w], lengths[w]);
        }
        x.boot();
        for (int w = 0; w < 6; w++) {
            Check.due("window", x.count(2), w);
            Check.due("ticks left in " + w, x.count(3), lengths[w]);
            int before = x.told(partitions[w], 4);
            x.run(lengths[w]);
            Check.due("begun in " + w, x.told(partitions[w], 4), before + lengths[w]);
        }
    }

    @Says("a length 1 .. 20")
    static void lengthsFrom1To20AreTaken() {
        SeparationMonitor x = new SeparationMonitor(1);
        Check.bad("a length of 0", Check.call(() -> x.window(0, 0)));
        Check.bad("a length of 21", Check.call(() -> x.window(0, 21)));
        Check.due("a length of 1", x.window(0, 1), 1);
        Check.due("a length of 20", x.window(0, 20), 2);
        x.boot();
        Rig.dueCounts(x, 1, 0, 0, 1);
        x.run(1);
        Rig.dueCounts(x, 1, 1, 1, 20);
        x.run(19);
        Rig.dueCounts(x, 1, 20, 1, 1);
        x.run(1);
        Rig.dueCounts(x, 1, 21, 0, 1);
    }

    @Says("CHANNELS 0 .. 3")
    static void thereAreChannels0To3AndNoOthers() {
        SeparationMonitor x = new SeparationMonitor(1);
        for (int c = -1; c <= 4; c += 5) {
            int d = c;
            Check.bad("channel " + d, () -> x.channel(d, 0, 0, 1));
            Check.bad("object " + d, Check.call(() -> x.object(d, 0)));
        }
        for (int c = 0; c < 4; c++) {
            int d = c;
            Check.fine("channel " + d, () -> x.channel(d, 0, 0, 1));
            Check.fine("object " + d, Check.call(() -> x.object(d, 0)));
        }
    }

    /** What each partition's fault is when it does the two words. */
    private static void dueOfAll(String what, SeparationMonitor x, int second, int... kinds) {
        for (int p = 0; p < 4; p++) {
            Rig.place(x, p, 20 * p, 2, Asm.lui(1, 1), second);
            x.window(p, 2);
        }
        x.boot();
        x.run(8);
        for (int p = 0; p < 4; p++) {
            Check.due(what + ", by " + p, x.told(p, 2), kinds[p]);
        }
    }

    @Says("a source, a PARTITION, or -1 (at first)")
    static void aChannelHasNoSourceAtFirst() {
        for (int c = 0; c < 4; c++) {
            dueOfAll("SW in channel " + c, new SeparationMonitor(1), Asm.sw(1, 1, 4 * c), 3, 3, 3, 3);
        }
    }

    @Says("a source, a PARTITION, or -1 (at first)")
    static void theSourceIsOnePartitionOrNone() {
        for (int source = -1; source < 4; source++) {
            SeparationMonitor x = new SeparationMonitor(1);
            x.channel(2, source, 15, 1);
            int[] kinds = {3, 3, 3, 3};
            if (source >= 0) {
                kinds[source] = 0;
            }
            dueOfAll("SW with source " + source, x, Asm.sw(1, 1, 8), kinds);
        }
    }

    @Says("readers, PARTITIONS as bits (none)")
    static void aChannelHasNoReadersAtFirst() {
        for (int c = 0; c < 4; c++) {
            dueOfAll("LW of channel " + c, new SeparationMonitor(1), Asm.lw(2, 1, 4 * c), 3, 3, 3, 3);
        }
    }

    @Says("readers, PARTITIONS as bits (none)")
    static void eachBitIsAPartition() {
        for (int readers = 0; readers < 16; readers++) {
            SeparationMonitor x = new SeparationMonitor(1);
            x.channel(1, 0, readers, 1);
            int[] kinds = new int[4];
            for (int p = 0; p < 4; p++) {
                kinds[p] = (readers & 1 << p) != 0 ? 0 : 3;
            }
            dueOfAll("LW with readers " + readers, x, Asm.lw(2, 1, 4), kinds);
        }
    }

    /** That it is 1 at first can't be seen: only readers see it, and those come with a period. */
    @Says("a period 1 .. 100 (1)")
    static void periodsFrom1To100AreTaken() {
        SeparationMonitor x = new SeparationMonitor(1);
        Check.bad("a period of 0", () -> x.channel(0, 0, 0, 0));
        Check.bad("a period of 101", () -> x.channel(0, 0, 0, 101));
        Check.due("age 1 with a period of 1", Rig.ageAfter(1, 1), 1);
        Check.due("age 2 with a period of 1", Rig.ageAfter(2, 1), -1);
        Check.due("age 100 with a period of 100", Rig.ageAfter(100, 100), 100);
        Check.due("age 101 with a period of 100", Rig.ageAfter(101, 100), -1);
    }
}
