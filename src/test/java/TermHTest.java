/** H, seen through quotes; the dues were reckoned outside of Java. */
@Of("H(a, b)")
public final class TermHTest {
    public static void main(String[] args) {
        Tests.run(TermHTest.class);
    }

    /** Without a region the log is 0, so that the quote is H(H(key, nonce), 0). */
    private static void dueQuote(int key, int nonce, int due) {
        SeparationMonitor x = new SeparationMonitor(key);
        x.window(0, 1);
        x.boot();
        Check.due("quote(" + nonce + ") with the key " + key, x.quote(nonce), due);
    }

    @Says("of ints (wrapping)")
    static void sumsAndProductsWrap() {
        dueQuote(Rig.MAX, Rig.MAX, 1729817243);
        dueQuote(Rig.MIN, Rig.MIN, 0);
        dueQuote(Rig.MAX, 1, 2052137552);
        dueQuote(Rig.MIN, -1, 1464270286);
        dueQuote(-1, -1, 1729817243);
    }

    @Says("(h shifted right by 15, zeros coming in)")
    static void aNegativeNumberIsShiftedWithZeros() {
        dueQuote(0, 1, 1061253427);
        dueQuote(5, 3, 1708854731);
    }

    @Says("h = (a * 31 + b) * -1640531535")
    static void onlyTheFirstIsTaken31Times() {
        dueQuote(0, 0, 0);
        dueQuote(1, 0, 617319063);
        dueQuote(0, 1, 1061253427);
    }
}
