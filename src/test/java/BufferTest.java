/** Promises 2 to 5: set, fill, get, sum. */
public final class BufferTest {
    private static final Due due = new Due("BufferTest");
    private static final int[] NO_WORDS = {-1, 64, 65, Integer.MIN_VALUE, Integer.MAX_VALUE};

    public static void main(String[] args) {
        wordsAreSetOneByOne();
        wordsAreFilled();
        sumsAreWeighted();
        wrongWordsAreRefused();
        nothingIsPutWhilePowerIsOff();
        due.end();
    }

    private static void wordsAreSetOneByOne() {
        WordMedium x = new WordMedium();
        x.set(0, 11);
        x.set(31, Integer.MIN_VALUE);
        x.set(32, -7);
        x.set(63, Integer.MAX_VALUE);
        for (int i = 0; i < 64; i++) {
            int want = i == 0 ? 11 : i == 31 ? Integer.MIN_VALUE : i == 32 ? -7 : i == 63 ? Integer.MAX_VALUE : 0;
            due.is("get(" + i + ")", want, x.get(i));
        }
        x.set(31, 5);
        due.is("get(31) when set again", 5, x.get(31));
        due.is("writes() after set", 0, x.writes());
    }

    private static void wordsAreFilled() {
        int[][] pairs = {{7, 3}, {0, 0}, {-5, -1}, {Integer.MAX_VALUE, 1}, {1, Integer.MAX_VALUE}, {9, 1 << 30}};
        WordMedium x = new WordMedium();
        for (int[] pair : pairs) {
            x.fill(pair[0], pair[1]);
            for (int i = 0; i < 64; i++) {
                due.is("get(" + i + ") after fill(" + pair[0] + ", " + pair[1] + ")",
                        (int) ((long) pair[0] + (long) i * pair[1]), x.get(i));
            }
        }
        due.is("writes() after fill", 0, x.writes());
    }

    private static void sumsAreWeighted() {
        WordMedium x = new WordMedium();
        for (int i = 0; i < 64; i++) {
            x.fill(0, 0);
            x.set(i, 1000);
            due.is("sum() of word " + i, 1000L * (i + 1), x.sum());
        }
        x.fill(1, 0);
        due.is("sum() of ones", 2080, x.sum());
        x.fill(Integer.MAX_VALUE, 0);
        due.is("sum(), wrapping", (int) (2080L * Integer.MAX_VALUE), x.sum());
        x.fill(Integer.MIN_VALUE, 123456789);
        long sum = 0;
        for (int i = 0; i < 64; i++) {
            sum += (Integer.MIN_VALUE + i * 123456789) * (i + 1);
        }
        due.is("sum(), wrapping in its parts", (int) sum, x.sum());
    }

    private static void wrongWordsAreRefused() {
        WordMedium x = new WordMedium();
        x.fill(3, 4);
        int sum = x.sum();
        for (int i : NO_WORDS) {
            due.indexIsThrown("set(" + i + ", 1)", () -> x.set(i, 1));
            due.indexIsThrown("get(" + i + ")", () -> x.get(i));
        }
        due.is("sum() after refused calls", sum, x.sum());
    }

    private static void nothingIsPutWhilePowerIsOff() {
        WordMedium x = new WordMedium();
        x.fill(3, 4);
        x.cut();
        due.offIsThrown("set(0, 1) while off", () -> x.set(0, 1));
        due.offIsThrown("set(63, 1) while off", () -> x.set(63, 1));
        due.offIsThrown("fill(1, 1) while off", () -> x.fill(1, 1));
        for (int i : NO_WORDS) {
            due.offIsThrown("set(" + i + ", 1) while off", () -> x.set(i, 1));
            due.indexIsThrown("get(" + i + ") while off", () -> x.get(i));
        }
        for (int i = 0; i < 64; i++) {
            due.is("get(" + i + ") while off", 0, x.get(i));
        }
        due.is("sum() while off", 0, x.sum());
        x.start();
        due.is("sum() when on again", 0, x.sum());
        x.set(1, 2);
        due.is("get(1) when on again", 2, x.get(1));
    }
}
