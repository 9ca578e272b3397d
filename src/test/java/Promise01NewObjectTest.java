/** Promise 1: a new object is setting up, with the key. */
public final class Promise01NewObjectTest {
    public static void main(String[] args) {
        everythingIsAtItsFirstValue();
        theKeyIsTheOneGiven();
        objectsShareNothing();
        Check.done();
    }

    private static void everythingIsAtItsFirstValue() {
        SeparationMonitor x = new SeparationMonitor(5);
        for (int i = 0; i < 96; i++) {
            Check.due("memory(" + i + ")", x.memory(i), 0);
        }
        for (int p = 0; p < 4; p++) {
            for (int what = 0; what <= 8; what++) {
                Check.due("told(" + p + ", " + what + ")", x.told(p, what), 0);
            }
        }
        for (int c = 0; c < 4; c++) {
            Check.due("object(" + c + ", 0)", x.object(c, 0), 0);
            Check.due("object(" + c + ", 1)", x.object(c, 1), -1);
            Check.due("object(" + c + ", 2)", x.object(c, 2), 0);
            Check.due("object(" + c + ", 3)", x.object(c, 3), 0);
        }
        for (int what = 0; what <= 7; what++) {
            Check.due("count(" + what + ")", x.count(what), 0);
        }
    }

    private static void theKeyIsTheOneGiven() {
        int[] keys = {0, 1, -1, 12345, Integer.MIN_VALUE, Integer.MAX_VALUE};
        for (int key : keys) {
            SeparationMonitor x = new SeparationMonitor(key);
            x.window(0, 1);
            x.boot();
            Check.due("quote(3) with key " + key, x.quote(3), Asm.h(Asm.h(key, 3), 0));
        }
    }

    private static void objectsShareNothing() {
        SeparationMonitor x = new SeparationMonitor(1);
        SeparationMonitor y = new SeparationMonitor(2);
        x.load(0, 9);
        x.window(0, 1);
        x.boot();
        Check.due("memory(0) of another object", y.memory(0), 0);
        Check.due("count(0) of another object", y.count(0), 0);
        Check.due("count(6) of another object", y.count(6), 0);
    }
}
