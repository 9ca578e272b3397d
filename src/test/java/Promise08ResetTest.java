/** Promise 8: reset. */
public final class Promise08ResetTest {
    public static void main(String[] args) {
        notNowIfNotBooted();
        memoryAndAllThatWasSetUpStay();
        slotsAndKeyStay();
        Check.done();
    }

    private static void notNowIfNotBooted() {
        SeparationMonitor x = new SeparationMonitor(1);
        Check.notNow("reset of a new object", x::reset);
        x.window(0, 1);
        x.boot();
        x.reset();
        Check.due("count(0)", x.count(0), 0);
        Check.notNow("reset twice", x::reset);
    }

    private static void memoryAndAllThatWasSetUpStay() {
        SeparationMonitor x = Rig.set(Rig.SKIP, 6, Asm.addi(1, 0, 99), Asm.sw(1, 0, 20), Asm.lui(2, 1),
                Asm.sw(1, 2, 8), Asm.CALL);
        x.channel(2, 0, 1, 50);
        x.boot();
        x.run(20);
        x.reset();
        Check.due("a word that was written", x.memory(Rig.FIRST + 5), 99);
        Check.due("a word that was not", x.memory(Rig.FIRST), Asm.addi(1, 0, 99));
        Check.due("policy", x.told(0, 6), 2);
        Check.due("first", x.told(0, 7), Rig.FIRST);
        Check.due("size", x.told(0, 8), 6);
        Check.due("windows", x.count(6), 1);
        x.boot();
        x.run(5);
        Check.due("the channel still has its source", x.object(2, 0), 99);
        Check.due("faults", x.told(0, 1), 0);
    }

    private static void slotsAndKeyStay() {
        SeparationMonitor x = Rig.booted(Rig.STOP, 4, Asm.addi(15, 0, Asm.SEAL), Asm.addi(11, 0, 9), Asm.CALL);
        x.run(3);
        int held = x.object(0, 2);
        int mark = x.object(0, 3);
        int quoted = x.quote(4);
        x.reset();
        Check.due("held", x.object(0, 2), held);
        Check.due("mark", x.object(0, 3), mark);
        x.boot();
        Check.due("held, booted again", x.object(0, 2), held);
        Check.due("mark, booted again", x.object(0, 3), mark);
        Check.due("quote, booted again", x.quote(4), quoted);
    }
}
