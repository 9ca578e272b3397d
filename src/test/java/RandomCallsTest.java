import java.util.Random;

/** Random runs of at most 512 calls, the same each time, on the program and on the model. */
public final class RandomCallsTest {
    private static final int RUNS = 1500;
    private static final int CALLS = 512;
    private static final String[] SET_UPS = {"region", "load", "policy", "window", "channel"};
    private static final String[] LOOKS = {"register", "memory", "told", "object", "count", "quote"};
    private static final int[] EDGES = {-2, -1, 0, 1, 3, 4, 15, 16, 17, 20, 21, 32, 33, 95, 96, 100, 101, 400, 401,
        Integer.MIN_VALUE, Integer.MAX_VALUE};

    private final Random random;
    private final int run;
    private final SeparationMonitor x;
    private final Model model;
    private int calls = 0;
    private boolean fine = true;

    private RandomCallsTest(int run) {
        this.run = run;
        random = new Random(run);
        int key = random.nextInt();
        x = new SeparationMonitor(key);
        model = new Model(key);
    }

    public static void main(String[] args) {
        for (int run = 0; run < RUNS; run++) {
            new RandomCallsTest(run).go();
        }
        Check.done();
    }

    private void go() {
        setUp();
        call("boot");
        while (fine && calls < CALLS) {
            int kind = random.nextInt(100);
            if (kind < 25) {
                call("run", random.nextInt(8) == 0 ? any(401) : 1 + random.nextInt(6));
            } else if (kind < 90) {
                look();
            } else if (kind < 92) {
                call(SET_UPS[random.nextInt(SET_UPS.length)], any(5), any(96), any(33), any(101));
            } else if (kind < 93) {
                bootAgain();
            } else {
                call(LOOKS[random.nextInt(LOOKS.length)], any(5), any(18));
            }
        }
    }

    private void setUp() {
        for (int p = 0; p < 4; p++) {
            int size = random.nextInt(6) == 0 ? 0 : 2 + random.nextInt(16);
            int first = p * 24 + random.nextInt(6);
            call("region", p, first, size);
            for (int i = 0; i < size; i++) {
                call("load", first + i, word(size));
            }
            call("policy", p, random.nextInt(3));
            call("channel", p, random.nextInt(5) - 1, random.nextInt(16), 1 + random.nextInt(30));
        }
        int windows = 1 + random.nextInt(6);
        for (int w = 0; w < windows; w++) {
            call("window", random.nextInt(4), 1 + random.nextInt(20));
        }
    }

    private void bootAgain() {
        call("reset");
        if (random.nextBoolean()) {
            look();
            call("region", random.nextInt(4), any(96), random.nextInt(3) == 0 ? 0 : any(33));
            call("load", any(96), word(8));
            call("policy", random.nextInt(4), random.nextInt(3));
        }
        call("boot");
    }

    private void look() {
        call("register", random.nextInt(4), random.nextInt(17));
        call("memory", random.nextInt(96));
        call("told", random.nextInt(4), random.nextInt(9));
        call("object", random.nextInt(4), random.nextInt(4));
        call("count", random.nextInt(9));
    }

    private int any(int below) {
        return random.nextInt(4) == 0 ? EDGES[random.nextInt(EDGES.length)] : random.nextInt(below);
    }

    private int low() {
        int[] favoured = {0, 1, 2, 10, 11, 15};
        return random.nextInt(30) == 0 ? random.nextInt(32) : favoured[random.nextInt(favoured.length)];
    }

    private int offset(int size) {
        return 4 * (random.nextInt(2 * size) - size) + (random.nextInt(20) == 0 ? 2 : 0);
    }

    /** Mostly an instruction that does something in a region of the size. */
    private int word(int size) {
        int[] branches = {0, 1, 4, 5, 6, 7};
        int f = random.nextInt(8);
        switch (random.nextInt(16)) {
            case 0:
                return Asm.lui(low(), random.nextInt(3));
            case 1:
                return Asm.auipc(low(), random.nextInt(1 << 20));
            case 2:
                return Asm.jal(low(), offset(size));
            case 3:
                return Asm.jalr(low(), low(), offset(size));
            case 4:
                return Asm.branch(branches[random.nextInt(6)], low(), low(), offset(size));
            case 5:
                return Asm.lw(low(), low(), random.nextInt(5) * 4 + random.nextInt(10) / 9);
            case 6:
                return Asm.sw(low(), low(), random.nextInt(5) * 4 + random.nextInt(10) / 9);
            case 7:
                return Asm.withImmediate(f, low(), low(), random.nextInt(4096));
            case 8:
                return Asm.withImmediate(random.nextBoolean() ? 1 : 5, low(), low(), random.nextInt(64)
                        & 31 | (random.nextBoolean() ? 1024 : 0));
            case 9:
                return Asm.withRegister(random.nextBoolean() ? 32 : 0, f, low(), low(), low());
            case 10:
                return random.nextInt();
            case 11:
                return Asm.addi(15, 0, random.nextInt(6));
            case 12:
                return Asm.addi(10, 0, random.nextInt(5));
            case 13:
                return random.nextInt(6) == 0 ? Asm.BREAK : Asm.CALL;
            default:
                return random.nextBoolean() ? Asm.CALL : Asm.addi(low(), low(), random.nextInt(4096));
        }
    }

    private void call(String name, int... given) {
        if (!fine || calls == CALLS) {
            return;
        }
        calls++;
        int[] a = java.util.Arrays.copyOf(given, 4);
        String got = answer(() -> onProgram(name, a));
        String want = answer(() -> onModel(name, a));
        fine = got.equals(want) || want.equals(Model.Free.class.getName());
        Check.isTrue("run " + run + ", call " + calls + ": " + name + java.util.Arrays.toString(given) + " answered "
                + got + ", the model " + want, fine);
    }

    private static String answer(java.util.function.IntSupplier call) {
        try {
            return String.valueOf(call.getAsInt());
        } catch (RuntimeException e) {
            return e.getClass().getName();
        }
    }

    private int onProgram(String name, int[] a) {
        switch (name) {
            case "region": x.region(a[0], a[1], a[2]); return 0;
            case "load": x.load(a[0], a[1]); return 0;
            case "policy": x.policy(a[0], a[1]); return 0;
            case "window": return x.window(a[0], a[1]);
            case "channel": x.channel(a[0], a[1], a[2], a[3]); return 0;
            case "boot": return x.boot();
            case "reset": x.reset(); return 0;
            case "run": return x.run(a[0]);
            case "quote": return x.quote(a[0]);
            case "register": return x.register(a[0], a[1]);
            case "memory": return x.memory(a[0]);
            case "told": return x.told(a[0], a[1]);
            case "object": return x.object(a[0], a[1]);
            default: return x.count(a[0]);
        }
    }

    private int onModel(String name, int[] a) {
        switch (name) {
            case "region": model.region(a[0], a[1], a[2]); return 0;
            case "load": model.load(a[0], a[1]); return 0;
            case "policy": model.policy(a[0], a[1]); return 0;
            case "window": return model.window(a[0], a[1]);
            case "channel": model.channel(a[0], a[1], a[2], a[3]); return 0;
            case "boot": return model.boot();
            case "reset": model.reset(); return 0;
            case "run": return model.run(a[0]);
            case "quote": return model.quote(a[0]);
            case "register": return model.register(a[0], a[1]);
            case "memory": return model.memory(a[0]);
            case "told": return model.told(a[0], a[1]);
            case "object": return model.object(a[0], a[1]);
            default: return model.count(a[0]);
        }
    }
}
