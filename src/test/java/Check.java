import java.util.function.IntSupplier;

/** Counts the answers that are not the ones due; a test ends with done(). */
final class Check {
    private static String place = "";
    private static int checks = 0;
    private static int wrong = 0;

    private Check() {
    }

    /** What is found wrong from now on is told with this place before it. */
    static void begin(String where) {
        place = where;
    }

    static void due(String what, int got, int want) {
        checks++;
        if (got != want) {
            complain(what + " answered " + got + ", due is " + want);
        }
    }

    static void isTrue(String what, boolean holds) {
        checks++;
        if (!holds) {
            complain("does not hold: " + what);
        }
    }

    static void bad(String what, Runnable call) {
        dueThrow(what, call, IllegalArgumentException.class);
    }

    static void notNow(String what, Runnable call) {
        dueThrow(what, call, IllegalStateException.class);
    }

    static void overlap(String what, Runnable call) {
        dueThrow(what, call, UnsupportedOperationException.class);
    }

    static void fine(String what, Runnable call) {
        checks++;
        try {
            call.run();
        } catch (RuntimeException e) {
            complain(what + " threw " + e.getClass().getSimpleName() + ", due is nothing");
        }
    }

    /** For calls with an answer, which a Runnable has no place for. */
    static Runnable call(IntSupplier supplier) {
        return supplier::getAsInt;
    }

    private static void dueThrow(String what, Runnable call, Class<? extends RuntimeException> want) {
        checks++;
        String got = "nothing";
        try {
            call.run();
        } catch (RuntimeException e) {
            if (e.getClass() == want) {
                return;
            }
            got = e.getClass().getSimpleName();
        }
        complain(what + " threw " + got + ", due is " + want.getSimpleName());
    }

    private static void complain(String what) {
        wrong++;
        System.out.println(place + what);
    }

    static void done() {
        System.out.println(checks + " checks, " + wrong + " wrong");
        if (wrong > 0) {
            System.exit(1);
        }
    }
}
