/** Promises 14 and 15: setRoot, root. */
public final class RootsTest {
    private static final Due due = new Due("RootsTest");
    private static final int[] NO_ROOTS = {-1, 4, Integer.MIN_VALUE, Integer.MAX_VALUE};

    public static void main(String[] args) {
        rootsAreWritten();
        writingARootFails();
        wrongRootsAreRefused();
        whilePowerIsOff();
        due.end();
    }

    private static void rootsAreWritten() {
        WordMedium x = new WordMedium();
        x.fill(1, 1);
        int[] values = {Integer.MIN_VALUE, -5, 0, Integer.MAX_VALUE};
        for (int k = 0; k < 4; k++) {
            due.is("setRoot(" + k + ", " + values[k] + ")", true, x.setRoot(k, values[k]));
            due.is("writes() after it", k + 1, x.writes());
        }
        for (int k = 0; k < 4; k++) {
            due.is("root(" + k + ")", values[k], x.root(k));
        }
        due.is("setRoot(2, 9)", true, x.setRoot(2, 9));
        due.is("root(2) written again", 9, x.root(2));
        due.is("sum() after roots", 89440, x.sum());
        x.cut();
        due.is("root(2) while off", 9, x.root(2));
        x.start();
        due.is("root(0) after a cut", Integer.MIN_VALUE, x.root(0));
        due.is("write(0, 0): roots took no number", 1, x.write(0, 0));
    }

    private static void writingARootFails() {
        WordMedium x = new WordMedium();
        x.fill(1, 1);
        x.append(3);
        x.cutAfter(1);
        due.is("setRoot(3, 7) with power for it", true, x.setRoot(3, 7));
        due.is("isOn() after it", true, x.isOn());
        due.is("setRoot(3, 8) without power", false, x.setRoot(3, 8));
        due.is("isOn() after that", false, x.isOn());
        due.is("root(3) after that", 7, x.root(3));
        due.is("writes() after that", 1, x.writes());
        due.is("sum() after that", 0, x.sum());
        due.is("log(2) after that", 0, x.log(2));
        x.start();
        due.is("root(3) when on again", 7, x.root(3));
        due.is("setRoot(3, 8) when on again", true, x.setRoot(3, 8));
        due.is("root(3) written", 8, x.root(3));
    }

    private static void wrongRootsAreRefused() {
        WordMedium x = new WordMedium();
        x.cutAfter(0);
        for (int k : NO_ROOTS) {
            due.indexIsThrown("setRoot(" + k + ", 1)", () -> x.setRoot(k, 1));
            due.indexIsThrown("root(" + k + ")", () -> x.root(k));
        }
        due.is("isOn() after refused calls", true, x.isOn());
        due.is("writes() after refused calls", 0, x.writes());
        for (int k = 0; k < 4; k++) {
            due.is("root(" + k + ") after refused calls", 0, x.root(k));
        }
    }

    private static void whilePowerIsOff() {
        WordMedium x = new WordMedium();
        x.setRoot(0, 5);
        x.cut();
        due.offIsThrown("setRoot(0, 6) while off", () -> x.setRoot(0, 6));
        for (int k : NO_ROOTS) {
            due.offIsThrown("setRoot(" + k + ", 6) while off", () -> x.setRoot(k, 6));
            due.indexIsThrown("root(" + k + ") while off", () -> x.root(k));
        }
        due.is("root(0) while off", 5, x.root(0));
        due.is("writes() while off", 1, x.writes());
    }
}
