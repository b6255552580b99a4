/** Promises 1 and 19 to 23: a new object, writes, cutAfter, cut, start, isOn. */
public final class PowerTest {
    private static final Due due = new Due("PowerTest");

    public static void main(String[] args) {
        allIsZeroAndPowerIsOn();
        objectsStandApart();
        leastWritesAreCounted();
        powerFailsAfterLeastWrites();
        whatWasSaidIsReplaced();
        noneTakesBackWhatWasSaid();
        powerIsCutAndStarted();
        startForgetsWhatWasSaid();
        startWhileOnChangesNothing();
        memoryGoesAndTheMediumStays();
        wrongNumbersAreRefused();
        theLargestNumberIsNeverReached();
        whatIsSaidCountsFromNowOn();
        startLeavesMemoryEmpty();
        due.end();
    }

    private static void allIsZeroAndPowerIsOn() {
        due.is("NONE", -1, WordMedium.NONE);
        WordMedium x = new WordMedium();
        due.is("isOn()", true, x.isOn());
        due.is("start()", false, x.start());
        due.is("writes()", 0, x.writes());
        due.is("sum()", 0, x.sum());
        for (int i = 0; i < 64; i++) {
            due.is("get(" + i + ")", 0, x.get(i));
        }
        for (int k = 0; k < 4; k++) {
            due.is("root(" + k + ")", 0, x.root(k));
        }
        for (int which = 0; which < 3; which++) {
            due.is("log(" + which + ")", 0, x.log(which));
        }
        for (int area = 0; area < 2; area++) {
            due.is("count(" + area + ", 0)", 256, x.count(area, 0));
            due.is("count(" + area + ", 1)", 0, x.count(area, 1));
            due.is("count(" + area + ", 2)", 0, x.count(area, 2));
            for (int page = 0; page < 256; page += 51) {
                due.is("stamp(" + area + ", " + page + ", 0)", 0, x.stamp(area, page, 0));
                due.is("stamp(" + area + ", " + page + ", 1)", 0, x.stamp(area, page, 1));
                x.fill(1, 0);
                due.is("read(" + area + ", " + page + ")", 0, x.read(area, page));
                due.is("sum() after it", 0, x.sum());
            }
        }
        due.is("setRoot(0, 1): no failure was said", true, x.setRoot(0, 1));
    }

    private static void objectsStandApart() {
        WordMedium x = new WordMedium();
        WordMedium y = new WordMedium();
        x.fill(1, 1);
        x.write(0, 0);
        x.append(4);
        x.force(4);
        x.setRoot(1, 1);
        x.lose(1, 1);
        x.cut();
        due.is("isOn() of another object", true, y.isOn());
        due.is("sum() of another object", 0, y.sum());
        due.is("stamp of another object", 0, y.stamp(0, 0, 0));
        due.is("log(2) of another object", 0, y.log(2));
        due.is("root(1) of another object", 0, y.root(1));
        due.is("count(1, 2) of another object", 0, y.count(1, 2));
        due.is("writes() of another object", 0, y.writes());
    }

    private static void leastWritesAreCounted() {
        WordMedium x = new WordMedium();
        x.write(0, 0);
        due.is("writes() after a page", 2, x.writes());
        x.copy(0, 0);
        due.is("writes() after a copy", 4, x.writes());
        x.append(5);
        due.is("writes() after an append", 4, x.writes());
        x.force(3);
        due.is("writes() after three words", 7, x.writes());
        x.setRoot(0, 0);
        due.is("writes() after a root, the same word", 8, x.writes());
        x.read(0, 0);
        x.readLog(0, 5);
        x.giveBack(2);
        x.lose(1, 1);
        x.fill(1, 1);
        x.set(1, 1);
        due.is("writes() after calls without a least write", 8, x.writes());
        x.cut();
        x.start();
        due.is("writes() after a cut", 8, x.writes());
    }

    private static void powerFailsAfterLeastWrites() {
        for (int n = 0; n <= 7; n++) {
            WordMedium x = new WordMedium();
            x.append(3);
            x.cutAfter(n);
            due.is("setRoot after cutAfter(" + n + ")", n >= 1, x.setRoot(0, 1));
            if (n >= 1) {
                due.is("write after cutAfter(" + n + ")", n >= 3 ? 1 : WordMedium.NONE, x.write(0, 0));
            }
            if (n >= 3) {
                due.is("force after cutAfter(" + n + ")", n >= 6 ? 3 : WordMedium.NONE, x.force(3));
            }
            if (n >= 6) {
                due.is("isOn() after cutAfter(" + n + ")", true, x.isOn());
                due.is("copy after cutAfter(" + n + ")", WordMedium.NONE, x.copy(0, 0));
            }
            due.is("isOn() in the end, cutAfter(" + n + ")", false, x.isOn());
            due.is("writes() in the end, cutAfter(" + n + ")", n, x.writes());
        }
    }

    private static void whatWasSaidIsReplaced() {
        WordMedium x = new WordMedium();
        x.cutAfter(1);
        x.setRoot(0, 1);
        x.cutAfter(2);
        due.is("setRoot(0, 2)", true, x.setRoot(0, 2));
        due.is("setRoot(0, 3)", true, x.setRoot(0, 3));
        due.is("setRoot(0, 4)", false, x.setRoot(0, 4));
        x.start();
        x.cutAfter(100);
        x.cutAfter(0);
        due.is("setRoot(0, 5)", false, x.setRoot(0, 5));
        due.is("root(0)", 3, x.root(0));
    }

    private static void noneTakesBackWhatWasSaid() {
        WordMedium x = new WordMedium();
        x.cutAfter(0);
        x.cutAfter(WordMedium.NONE);
        for (int k = 0; k < 100; k++) {
            due.is("write(0, 0) after cutAfter(NONE)", k + 1, x.write(0, 0));
        }
        due.is("isOn() after cutAfter(NONE)", true, x.isOn());
        due.is("writes() after cutAfter(NONE)", 200, x.writes());
    }

    private static void powerIsCutAndStarted() {
        WordMedium x = new WordMedium();
        due.is("cut() when on", true, x.cut());
        due.is("isOn() after cut", false, x.isOn());
        due.is("cut() when off", false, x.cut());
        due.is("isOn() after cut when off", false, x.isOn());
        due.is("start() when off", true, x.start());
        due.is("isOn() after start", true, x.isOn());
        due.is("start() when on", false, x.start());
        due.is("cut() again", true, x.cut());
        due.is("start() again", true, x.start());
        due.is("writes() after it all", 0, x.writes());
        x.cutAfter(0);
        x.setRoot(0, 1);
        due.is("cut() when power failed by itself", false, x.cut());
        due.is("start() when power failed by itself", true, x.start());
    }

    private static void startForgetsWhatWasSaid() {
        WordMedium x = new WordMedium();
        x.cutAfter(0);
        x.setRoot(0, 1);
        x.start();
        due.is("setRoot after a failure", true, x.setRoot(0, 2));
        x.cutAfter(1);
        x.cut();
        x.start();
        due.is("write after a cut before the failure that was said", 1, x.write(0, 0));
        x.cut();
        x.cutAfter(0);
        due.is("isOn() after cutAfter(0) while off", false, x.isOn());
        x.start();
        due.is("setRoot when a failure was said while off", true, x.setRoot(0, 3));
        due.is("isOn() after it", true, x.isOn());
    }

    private static void startWhileOnChangesNothing() {
        WordMedium x = new WordMedium();
        x.fill(1, 1);
        x.append(3);
        x.cutAfter(1);
        due.is("start() while on", false, x.start());
        due.is("sum() after it", 89440, x.sum());
        due.is("log(2) after it", 3, x.log(2));
        due.is("setRoot(0, 1) after it", true, x.setRoot(0, 1));
        due.is("setRoot(0, 2): what was said stands", false, x.setRoot(0, 2));
    }

    private static void memoryGoesAndTheMediumStays() {
        WordMedium x = new WordMedium();
        x.fill(1, 1);
        x.write(1, 2);
        x.lose(0, 3);
        x.append(9);
        x.force(4);
        x.giveBack(1);
        x.setRoot(3, 33);
        x.cut();
        for (int on = 0; on < 2; on++) {
            due.is("sum()", 0, x.sum());
            due.is("log(0)", 1, x.log(0));
            due.is("log(1)", 4, x.log(1));
            due.is("log(2)", 4, x.log(2));
            due.is("root(3)", 33, x.root(3));
            due.is("stamp(1, 2, 1)", 1, x.stamp(1, 2, 1));
            due.is("count(0, 2)", 1, x.count(0, 2));
            due.is("writes()", 7, x.writes());
            x.start();
        }
        due.is("read(1, 2)", 0, x.read(1, 2));
        due.is("sum() of the page", 89440, x.sum());
    }

    private static void wrongNumbersAreRefused() {
        WordMedium x = new WordMedium();
        x.cutAfter(1);
        for (int n : new int[] {-2, -3, Integer.MIN_VALUE}) {
            due.argumentIsThrown("cutAfter(" + n + ")", () -> x.cutAfter(n));
        }
        due.is("setRoot(0, 1) after refused calls", true, x.setRoot(0, 1));
        due.is("setRoot(0, 2): what was said stands", false, x.setRoot(0, 2));
        due.argumentIsThrown("cutAfter(-2) while off", () -> x.cutAfter(-2));
        x.cutAfter(WordMedium.NONE);
        x.cutAfter(0);
        due.is("isOn() after cutAfter while off", false, x.isOn());
    }

    private static void theLargestNumberIsNeverReached() {
        WordMedium x = new WordMedium();
        for (int k = 1; k <= 3; k++) {
            x.cutAfter(Integer.MAX_VALUE);
            due.is("write(0, 0) number " + k, k, x.write(0, 0));
            x.cutAfter(Integer.MAX_VALUE - 1);
            due.is("setRoot(0, " + k + ")", true, x.setRoot(0, k));
            due.is("isOn()", true, x.isOn());
        }
        due.is("writes()", 9, x.writes());
        x.cutAfter(0);
        due.is("setRoot(0, 4), in place of what was said", false, x.setRoot(0, 4));
    }

    private static void whatIsSaidCountsFromNowOn() {
        WordMedium x = new WordMedium();
        x.cutAfter(5);
        x.write(0, 0);
        x.setRoot(0, 1);
        x.cutAfter(3);
        due.is("write(0, 0)", 2, x.write(0, 0));
        due.is("setRoot(0, 2), the third", true, x.setRoot(0, 2));
        due.is("setRoot(0, 3), the fourth", false, x.setRoot(0, 3));
        due.is("writes()", 6, x.writes());
    }

    private static void startLeavesMemoryEmpty() {
        WordMedium x = new WordMedium();
        x.fill(1, 1);
        x.append(3);
        x.force(1);
        x.cut();
        due.is("start()", true, x.start());
        due.isFilled("after start", x, 0, 0);
        due.logIs("after start", x, 0, 1, 1);
        due.is("isOn()", true, x.isOn());
        due.is("start() again", false, x.start());
    }
}
