/** The document's "Terms", sentence by sentence in their order: each has a method that fails if it is broken. */
public final class TermsTest {
    private static final Due due = new Due("TermsTest");

    public static void main(String[] args) {
        areasAreTwo();
        pagesAre256();
        everyPageHas64WordsAllZeroAtFirst();
        everyPageKeepsItsOwnWords();
        halvesAreWords0To31And32To63();
        everyHalfHasAStampZeroAtFirst();
        pageWritesAreNumberedWhetherTheyEndOrNot();
        pagesAreTornByStampsNotByWords();
        lostPagesAreLostUntilBothHalvesAreWrittenAgain();
        logHasPlacesFromZeroOn();
        wordsBeforeForcedAreOnTheMedium();
        wordsFromForcedOnAreInMemoryAlone();
        rootsAreFourZeroAtFirst();
        bufferHas64Words();
        powerFailsBetweenAnyTwoLeastWrites();
        powerFailsOnlyWhenOneMoreIsToBeMade();
        failuresTakeWhatIsInMemory();
        questionsAreAnsweredWhilePowerIsOff();
        nothingElseIsAnsweredWhilePowerIsOff();
        forcedPlacesAreNotGivenTwice();
        otherPlacesAreGivenAgain();
        due.end();
    }

    private static void areasAreTwo() {
        WordMedium x = new WordMedium();
        for (int area : new int[] {0, 1}) {
            due.is("read(" + area + ", 0)", 0, x.read(area, 0));
            due.is("count(" + area + ", 0)", 256, x.count(area, 0));
        }
        for (int area : new int[] {-1, 2}) {
            due.indexIsThrown("read(" + area + ", 0)", () -> x.read(area, 0));
            due.indexIsThrown("count(" + area + ", 0)", () -> x.count(area, 0));
        }
    }

    private static void pagesAre256() {
        for (int area = 0; area < 2; area++) {
            WordMedium x = new WordMedium();
            int of = area;
            due.is("write(" + of + ", 0)", 1, x.write(of, 0));
            due.is("write(" + of + ", 255)", 2, x.write(of, 255));
            due.indexIsThrown("write(" + of + ", -1)", () -> x.write(of, -1));
            due.indexIsThrown("write(" + of + ", 256)", () -> x.write(of, 256));
            for (int page = 0; page < 256; page++) {
                x.lose(of, page);
            }
            due.countsAre("when every page is lost", x, of, 0, 256);
            due.countsAre("beside them", x, 1 - of, 0, 0);
        }
    }

    private static void everyPageHas64WordsAllZeroAtFirst() {
        for (int area = 0; area < 2; area++) {
            WordMedium x = null;
            for (int page = 0; page < 256; page++) {
                // Four calls a page: a new object before the 512th.
                if (page % 100 == 0) {
                    x = new WordMedium();
                }
                x.fill(1, 1);
                due.is("read(" + area + ", " + page + "), never written", 0, x.read(area, page));
                due.is("get(63) of it", 0, x.get(63));
                due.is("sum() of it", 0, x.sum());
            }
        }
    }

    private static void everyPageKeepsItsOwnWords() {
        for (int start = 0; start < 512; start += 64) {
            WordMedium x = new WordMedium();
            for (int k = start; k < start + 64; k++) {
                x.fill(k, k + 7);
                x.write(k / 256, k % 256);
            }
            for (int k = start; k < start + 64; k++) {
                String page = "(" + k / 256 + ", " + k % 256 + ")";
                due.is("read" + page, 0, x.read(k / 256, k % 256));
                due.is("sum() of page " + page, 2080 * k + 87360 * (k + 7), x.sum());
                due.is("stamp of page " + page, k - start + 1, x.stamp(k / 256, k % 256, k % 2));
            }
        }
    }

    private static void halvesAreWords0To31And32To63() {
        WordMedium x = new WordMedium();
        x.fill(1000, 1);
        x.write(1, 255);
        x.fill(-1, -1);
        x.cutAfter(1);
        x.write(1, 255);
        x.start();
        x.read(1, 255);
        for (int i = 0; i < 64; i++) {
            due.is("get(" + i + ") of a page whose first half is new", i < 32 ? -1 - i : 1000 + i, x.get(i));
        }
        due.is("stamp(1, 255, 0), the first half's", 2, x.stamp(1, 255, 0));
        due.is("stamp(1, 255, 1), the second half's", 1, x.stamp(1, 255, 1));
        due.indexIsThrown("stamp(1, 255, -1)", () -> x.stamp(1, 255, -1));
        due.indexIsThrown("stamp(1, 255, 2)", () -> x.stamp(1, 255, 2));
    }

    private static void everyHalfHasAStampZeroAtFirst() {
        for (int area = 0; area < 2; area++) {
            for (int half = 0; half < 2; half++) {
                WordMedium x = new WordMedium();
                for (int page = 0; page < 256; page++) {
                    due.is("stamp(" + area + ", " + page + ", " + half + ")", 0, x.stamp(area, page, half));
                }
            }
        }
    }

    private static void pageWritesAreNumberedWhetherTheyEndOrNot() {
        WordMedium x = new WordMedium();
        due.is("write(0, 0), the first", 1, x.write(0, 0));
        for (int number = 2; number <= 7; number++) {
            int made = number % 3;
            x.cutAfter(made);
            int answer = number < 5 ? x.write(0, 1) : x.copy(0, 0);
            due.is("page write " + number, made == 2 ? number : WordMedium.NONE, answer);
            x.start();
        }
        due.stampsAre("by writes 2 (whole), 3 (none) and 4 (half)", x, 0, 1, 4, 2);
        due.stampsAre("by copies 5 (whole), 6 (none) and 7 (half)", x, 1, 0, 7, 5);
        due.is("write(1, 1), the eighth", 8, x.write(1, 1));
        due.is("copy(1, 1), the ninth", 9, x.copy(1, 1));
    }

    private static void pagesAreTornByStampsNotByWords() {
        WordMedium x = new WordMedium();
        x.cutAfter(1);
        x.write(0, 3);
        x.start();
        due.is("read(0, 3): zeros over zeros, cut", 1, x.read(0, 3));
        due.countsAre("with zeros over zeros, cut", x, 0, 1, 0);
        due.offIsThrown("copy(0, 3)", () -> x.copy(0, 3));
        x.write(0, 3);
        due.is("read(0, 3), whole", 0, x.read(0, 3));
        for (int i = 0; i < 64; i++) {
            x.set(i, i < 32 ? 1 : 2);
        }
        x.write(0, 3);
        due.is("read(0, 3), halves with different words", 0, x.read(0, 3));
        due.countsAre("with halves of different words", x, 0, 0, 0);
    }

    private static void lostPagesAreLostUntilBothHalvesAreWrittenAgain() {
        WordMedium x = new WordMedium();
        x.fill(1, 1);
        x.write(0, 3);
        x.lose(0, 3);
        for (int k = 0; k < 2; k++) {
            x.fill(2, 2);
            x.cutAfter(1);
            x.write(0, 3);
            x.start();
            due.is("read(0, 3), the first half written " + (k + 1) + " times", 2, x.read(0, 3));
        }
        x.fill(3, 3);
        x.cutAfter(2);
        due.is("write(0, 3), both halves", 4, x.write(0, 3));
        due.is("read(0, 3), both halves written", 0, x.read(0, 3));
        due.isFilled("of both halves", x, 3, 3);
        x.lose(0, 3);
        due.is("read(0, 3), lost once more", 2, x.read(0, 3));
        x.cut();
        x.start();
        due.is("read(0, 3), lost before power failed", 2, x.read(0, 3));
    }

    private static void logHasPlacesFromZeroOn() {
        WordMedium x = new WordMedium();
        due.logIs("when new", x, 0, 0, 0);
        due.is("append(1)", 0, x.append(1));
        due.is("append(1)", 1, x.append(1));
        due.is("append(64)", 2, x.append(64));
        due.is("append(1)", 66, x.append(1));
        due.logIs("after four appends", x, 0, 0, 67);
    }

    private static void wordsBeforeForcedAreOnTheMedium() {
        for (int forced = 0; forced <= 10; forced += 5) {
            WordMedium x = new WordMedium();
            x.fill(100, 1);
            x.append(10);
            x.force(forced);
            x.cut();
            x.start();
            due.logIs("forced to " + forced + ", after a cut", x, 0, forced, forced);
            for (int place = 0; place < forced; place++) {
                x.readLog(place, 1);
                due.is("get(0), the word at " + place, 100 + place, x.get(0));
            }
        }
    }

    private static void wordsFromForcedOnAreInMemoryAlone() {
        WordMedium x = new WordMedium();
        x.fill(100, 1);
        x.append(10);
        x.force(9);
        x.readLog(9, 1);
        due.is("get(0), the word in memory", 109, x.get(0));
        x.cut();
        x.start();
        due.argumentIsThrown("readLog(9, 1) after a cut", () -> x.readLog(9, 1));
        due.argumentIsThrown("readLog(8, 2) after a cut", () -> x.readLog(8, 2));
        due.argumentIsThrown("force(10) after a cut", () -> x.force(10));
        x.readLog(8, 1);
        due.is("get(0), the word forced last", 108, x.get(0));
    }

    private static void rootsAreFourZeroAtFirst() {
        WordMedium x = new WordMedium();
        for (int k = 0; k < 4; k++) {
            due.is("root(" + k + ") at first", 0, x.root(k));
            due.is("setRoot(" + k + ", " + (k - 9) + ")", true, x.setRoot(k, k - 9));
            due.is("root(" + k + ")", k - 9, x.root(k));
        }
        for (int k : new int[] {-1, 4}) {
            due.indexIsThrown("root(" + k + ")", () -> x.root(k));
            due.indexIsThrown("setRoot(" + k + ", 1)", () -> x.setRoot(k, 1));
        }
    }

    private static void bufferHas64Words() {
        WordMedium x = new WordMedium();
        for (int i : new int[] {0, 63}) {
            x.set(i, 7);
            due.is("get(" + i + ")", 7, x.get(i));
        }
        for (int i : new int[] {-1, 64}) {
            due.indexIsThrown("set(" + i + ", 7)", () -> x.set(i, 7));
            due.indexIsThrown("get(" + i + ")", () -> x.get(i));
        }
        due.is("sum() of the first and the last", 7 + 7 * 64, x.sum());
    }

    /** Thirteen least writes: 2 of a page, 3 of the log, 1 root, 2 of a copy, 2 of the log, 2 of a page, 1 root. */
    private static void powerFailsBetweenAnyTwoLeastWrites() {
        for (int n = 0; n <= 13; n++) {
            WordMedium x = new WordMedium();
            x.fill(1, 1);
            x.append(5);
            x.cutAfter(n);
            makeThirteen(n, x);
            String when = "after " + n + " least writes";
            due.stampsAre(when, x, 0, 5, n < 1 ? 0 : 1, n < 2 ? 0 : 1);
            int forced = n < 3 ? 0 : n < 6 ? n - 2 : n < 9 ? 3 : n < 10 ? 4 : 5;
            due.logIs(when, x, 0, forced, n < 13 ? forced : 5);
            due.is("root(2) " + when, n < 6 ? 0 : 9, x.root(2));
            due.stampsAre(when, x, 1, 5, n < 7 ? 0 : 2, n < 8 ? 0 : 2);
            due.stampsAre(when, x, 1, 250, n < 11 ? 0 : 3, n < 12 ? 0 : 3);
            due.is("root(0) " + when, n < 13 ? 0 : 4, x.root(0));
            due.is("writes() " + when, n, x.writes());
            due.is("isOn() " + when, n == 13, x.isOn());
            due.is("sum() " + when, n < 13 ? 0 : 89440, x.sum());
        }
    }

    private static void makeThirteen(int n, WordMedium x) {
        String when = " with power for " + n + " least writes";
        if (x.isOn()) {
            due.is("write(0, 5)" + when, n < 2 ? WordMedium.NONE : 1, x.write(0, 5));
        }
        if (x.isOn()) {
            due.is("force(3)" + when, n < 5 ? WordMedium.NONE : 3, x.force(3));
        }
        if (x.isOn()) {
            due.is("setRoot(2, 9)" + when, n >= 6, x.setRoot(2, 9));
        }
        if (x.isOn()) {
            due.is("copy(0, 5)" + when, n < 8 ? WordMedium.NONE : 2, x.copy(0, 5));
        }
        if (x.isOn()) {
            due.is("force(5)" + when, n < 10 ? WordMedium.NONE : 2, x.force(5));
        }
        if (x.isOn()) {
            due.is("write(1, 250)" + when, n < 12 ? WordMedium.NONE : 3, x.write(1, 250));
        }
        if (x.isOn()) {
            due.is("setRoot(0, 4)" + when, n >= 13, x.setRoot(0, 4));
        }
    }

    private static void powerFailsOnlyWhenOneMoreIsToBeMade() {
        WordMedium x = new WordMedium();
        x.write(0, 0);
        x.append(4);
        x.force(2);
        x.cutAfter(0);
        x.fill(1, 1);
        x.set(0, 1);
        x.get(0);
        x.sum();
        x.read(0, 0);
        x.append(2);
        x.force(0);
        x.force(2);
        x.readLog(0, 6);
        x.giveBack(1);
        x.log(0);
        x.root(0);
        x.lose(0, 1);
        x.stamp(0, 0, 0);
        x.count(0, 0);
        x.writes();
        x.start();
        due.offIsThrown("copy(0, 1), lost", () -> x.copy(0, 1));
        due.indexIsThrown("write(0, 256)", () -> x.write(0, 256));
        due.indexIsThrown("copy(2, 0)", () -> x.copy(2, 0));
        due.argumentIsThrown("force(7)", () -> x.force(7));
        due.indexIsThrown("setRoot(4, 0)", () -> x.setRoot(4, 0));
        due.is("isOn() when no least write was to be made", true, x.isOn());
        due.is("force(3)", WordMedium.NONE, x.force(3));
        due.is("isOn() when one was", false, x.isOn());
    }

    private static void failuresTakeWhatIsInMemory() {
        for (int way = 0; way < 5; way++) {
            WordMedium x = new WordMedium();
            x.write(0, 0);
            x.fill(3, 3);
            x.append(20);
            x.force(8);
            x.giveBack(2);
            x.setRoot(1, 11);
            x.lose(1, 1);
            x.cutAfter(0);
            String when = "when power failed in way " + way;
            due.is("the call " + when, way == 3 ? 0 : way == 4 ? 1 : WordMedium.NONE, failInWay(way, x));
            due.is("isOn() " + when, false, x.isOn());
            due.isFilled(when, x, 0, 0);
            due.logIs(when, x, 2, 8, 8);
            due.is("root(1) " + when, 11, x.root(1));
            due.stampsAre(when, x, 0, 0, 1, 1);
            due.countsAre(when, x, 1, 0, 1);
            due.is("writes() " + when, 11, x.writes());
            x.start();
            due.isFilled(when + " and is on again", x, 0, 0);
            due.logIs(when + " and is on again", x, 2, 8, 8);
            x.readLog(2, 6);
            due.is("get(5), the word forced last, " + when, 24, x.get(5));
        }
    }

    private static int failInWay(int way, WordMedium x) {
        switch (way) {
            case 0:
                return x.write(0, 0);
            case 1:
                return x.copy(0, 0);
            case 2:
                return x.force(20);
            case 3:
                return x.setRoot(1, 12) ? 1 : 0;
            default:
                return x.cut() ? 1 : 0;
        }
    }

    private static void questionsAreAnsweredWhilePowerIsOff() {
        WordMedium x = new WordMedium();
        x.fill(1, 1);
        x.write(0, 255);
        x.append(3);
        x.force(2);
        x.setRoot(3, -3);
        x.cut();
        due.is("get(0) while off", 0, x.get(0));
        due.is("get(63) while off", 0, x.get(63));
        due.is("sum() while off", 0, x.sum());
        due.logIs("while off", x, 0, 2, 2);
        due.is("root(3) while off", -3, x.root(3));
        due.is("stamp(0, 255, 1) while off", 1, x.stamp(0, 255, 1));
        x.lose(0, 255);
        due.countsAre("while off", x, 0, 0, 1);
        due.is("writes() while off", 5, x.writes());
        due.is("isOn() while off", false, x.isOn());
        due.is("cut() while off", false, x.cut());
        x.cutAfter(0);
        x.cutAfter(WordMedium.NONE);
        due.is("start() while off", true, x.start());
    }

    private static void nothingElseIsAnsweredWhilePowerIsOff() {
        WordMedium x = new WordMedium();
        x.write(0, 0);
        x.append(3);
        x.force(2);
        x.cut();
        due.offIsThrown("set(0, 1)", () -> x.set(0, 1));
        due.offIsThrown("fill(1, 1)", () -> x.fill(1, 1));
        due.offIsThrown("write(0, 0)", () -> x.write(0, 0));
        due.offIsThrown("read(0, 0)", () -> x.read(0, 0));
        due.offIsThrown("copy(0, 0)", () -> x.copy(0, 0));
        due.offIsThrown("append(1)", () -> x.append(1));
        due.offIsThrown("force(0)", () -> x.force(0));
        due.offIsThrown("readLog(0, 1)", () -> x.readLog(0, 1));
        due.offIsThrown("giveBack(0)", () -> x.giveBack(0));
        due.offIsThrown("setRoot(0, 0)", () -> x.setRoot(0, 0));
        x.start();
        x.set(0, 1);
        x.fill(1, 1);
        due.is("write(0, 0) when on again", 2, x.write(0, 0));
        due.is("read(0, 0) when on again", 0, x.read(0, 0));
        due.is("copy(0, 0) when on again", 3, x.copy(0, 0));
        due.is("append(1) when on again", 2, x.append(1));
        due.is("force(0) when on again", 0, x.force(0));
        x.readLog(0, 1);
        x.giveBack(0);
        due.is("setRoot(0, 0) when on again", true, x.setRoot(0, 0));
    }

    private static void forcedPlacesAreNotGivenTwice() {
        WordMedium x = new WordMedium();
        x.fill(1, 1);
        x.append(10);
        x.force(10);
        x.giveBack(10);
        x.cut();
        x.start();
        due.logIs("when all was forced and given back, after a cut", x, 10, 10, 10);
        due.is("append(3)", 10, x.append(3));
        x.cutAfter(2);
        due.is("force(13) cut before its last word", WordMedium.NONE, x.force(13));
        x.start();
        due.is("append(1) behind the words forced before the failure", 12, x.append(1));
    }

    private static void otherPlacesAreGivenAgain() {
        WordMedium x = new WordMedium();
        x.fill(1, 1);
        x.append(10);
        x.force(6);
        x.giveBack(6);
        x.cut();
        x.start();
        due.logIs("when what was forced was given back, after a cut", x, 6, 6, 6);
        x.fill(71, 1);
        due.is("append(2) at a place given before", 6, x.append(2));
        due.is("force(8)", 2, x.force(8));
        x.readLog(6, 2);
        due.is("get(0), the new word", 71, x.get(0));
        due.is("get(1), the new word", 72, x.get(1));
        x.cut();
        x.start();
        due.is("append(1) behind them", 8, x.append(1));
        WordMedium y = new WordMedium();
        y.append(64);
        y.cut();
        y.start();
        due.is("append(1) when nothing was forced", 0, y.append(1));
    }
}
