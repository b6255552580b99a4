/** Promises 9 to 13: append, force, readLog, giveBack, log. */
public final class LogTest {
    private static final Due due = new Due("LogTest");
    private static final int[] NO_COUNTS = {0, -1, 65, Integer.MIN_VALUE, Integer.MAX_VALUE};

    public static void main(String[] args) {
        wordsAreAppendedAndRead();
        onlyTheFirstWordsAreReadInto();
        wordsAreForced();
        forcingFails();
        placesNotForcedAreGivenAgain();
        oldestWordsAreGivenBack();
        allMayBeGivenBack();
        wrongArgumentsAreRefused();
        emptyLogsRefuse();
        whilePowerIsOff();
        theLongestLogOfOneRunHasRoom();
        allForcedMayBeGivenBackAndNoMore();
        oneTo64WordsAreReadAndAppended();
        appendedWordsAreCopiesOfTheBuffer();
        due.end();
    }

    private static void wordsAreAppendedAndRead() {
        WordMedium x = new WordMedium();
        x.fill(10, 1);
        due.is("append(3)", 0, x.append(3));
        due.logIs("after append(3)", x, 0, 0, 3);
        due.is("get(2) after append", 12, x.get(2));
        x.fill(100, 100);
        due.is("append(64)", 3, x.append(64));
        due.is("append(1)", 67, x.append(1));
        due.logIs("after appends", x, 0, 0, 68);
        due.is("writes() after appends", 0, x.writes());
        x.fill(0, 0);
        x.readLog(0, 64);
        for (int i = 0; i < 64; i++) {
            due.is("get(" + i + ") of the log", i < 3 ? 10 + i : 100 + (i - 3) * 100, x.get(i));
        }
        x.readLog(66, 2);
        due.is("get(0) of the log's last", 6400, x.get(0));
        due.is("get(1) of the log's last", 100, x.get(1));
    }

    private static void onlyTheFirstWordsAreReadInto() {
        WordMedium x = new WordMedium();
        x.fill(10, 1);
        x.append(5);
        x.fill(-1, 0);
        x.readLog(2, 3);
        for (int i = 0; i < 64; i++) {
            due.is("get(" + i + ") after readLog(2, 3)", i < 3 ? 12 + i : -1, x.get(i));
        }
        x.readLog(0, 1);
        due.is("get(0) after readLog(0, 1)", 10, x.get(0));
        due.is("get(1) after readLog(0, 1)", 13, x.get(1));
        due.logIs("after reads", x, 0, 0, 5);
    }

    private static void wordsAreForced() {
        WordMedium x = new WordMedium();
        x.fill(1, 1);
        x.append(10);
        due.is("force(0)", 0, x.force(0));
        due.is("force(4)", 4, x.force(4));
        due.logIs("after force(4)", x, 0, 4, 10);
        due.is("writes() after force(4)", 4, x.writes());
        due.is("force(4) again", 0, x.force(4));
        due.is("force(2)", 0, x.force(2));
        due.logIs("after force(2)", x, 0, 4, 10);
        due.is("force(10)", 6, x.force(10));
        due.logIs("after force(10)", x, 0, 10, 10);
        due.is("writes() after force(10)", 10, x.writes());
        due.is("sum() after forces", 89440, x.sum());
        x.cut();
        x.start();
        due.logIs("after a cut", x, 0, 10, 10);
        x.readLog(0, 10);
        for (int i = 0; i < 10; i++) {
            due.is("get(" + i + ") of what was forced", i + 1, x.get(i));
        }
    }

    private static void forcingFails() {
        for (int n = 0; n < 5; n++) {
            WordMedium x = new WordMedium();
            x.fill(1, 1);
            x.append(8);
            x.force(1);
            x.cutAfter(n);
            due.is("force(6) cut after " + n, WordMedium.NONE, x.force(6));
            due.is("isOn() cut after " + n, false, x.isOn());
            due.is("sum() cut after " + n, 0, x.sum());
            due.is("writes() cut after " + n, 1 + n, x.writes());
            due.logIs("cut after " + n, x, 0, 1 + n, 1 + n);
            x.start();
            x.readLog(0, 1 + n);
            due.is("get(" + n + ") of what was forced before the cut", n + 1, x.get(n));
        }
        WordMedium x = new WordMedium();
        x.fill(1, 1);
        x.append(8);
        x.cutAfter(5);
        due.is("force(5) with power for it", 5, x.force(5));
        due.is("force(5) with nothing to do", 0, x.force(5));
        due.is("force(3) with nothing to do", 0, x.force(3));
        due.is("isOn() with no more to be made", true, x.isOn());
        due.is("append(1) with no more to be made", 8, x.append(1));
        x.giveBack(5);
        x.readLog(5, 1);
        due.is("isOn() after calls without a least write", true, x.isOn());
        due.is("force(6) with one more to be made", WordMedium.NONE, x.force(6));
        due.logIs("after that", x, 5, 5, 5);
    }

    private static void placesNotForcedAreGivenAgain() {
        WordMedium x = new WordMedium();
        x.fill(1, 1);
        x.append(20);
        x.force(7);
        x.cut();
        due.logIs("while off", x, 0, 7, 7);
        x.start();
        x.fill(500, 1);
        due.is("append(2) after a cut", 7, x.append(2));
        due.logIs("after it", x, 0, 7, 9);
        x.fill(0, 0);
        x.readLog(6, 3);
        due.is("get(0), forced", 7, x.get(0));
        due.is("get(1), given again", 500, x.get(1));
        due.is("get(2), given again", 501, x.get(2));
        due.argumentIsThrown("readLog(9, 1), gone with the cut", () -> x.readLog(9, 1));
    }

    private static void oldestWordsAreGivenBack() {
        WordMedium x = new WordMedium();
        x.fill(1, 1);
        x.append(64);
        x.force(40);
        int writes = x.writes();
        x.giveBack(0);
        due.logIs("after giveBack(0)", x, 0, 40, 64);
        x.giveBack(30);
        due.logIs("after giveBack(30)", x, 30, 40, 64);
        due.is("writes() after giveBack", writes, x.writes());
        due.is("sum() after giveBack", 89440, x.sum());
        due.argumentIsThrown("giveBack(29)", () -> x.giveBack(29));
        due.argumentIsThrown("giveBack(41)", () -> x.giveBack(41));
        due.argumentIsThrown("readLog(29, 1)", () -> x.readLog(29, 1));
        due.argumentIsThrown("readLog(29, 2)", () -> x.readLog(29, 2));
        due.argumentIsThrown("force(29)", () -> x.force(29));
        due.argumentIsThrown("force(65)", () -> x.force(65));
        due.is("force(30)", 0, x.force(30));
        x.readLog(30, 34);
        due.is("get(0) of the log's first", 31, x.get(0));
        due.is("get(33) of the log's last", 64, x.get(33));
        due.argumentIsThrown("readLog(30, 35)", () -> x.readLog(30, 35));
        x.cut();
        x.start();
        due.logIs("after a cut", x, 30, 40, 40);
        x.readLog(30, 10);
        due.is("get(9) after a cut", 40, x.get(9));
    }

    private static void allMayBeGivenBack() {
        WordMedium x = new WordMedium();
        x.fill(1, 1);
        x.append(12);
        x.force(12);
        x.giveBack(12);
        due.logIs("when all is given back", x, 12, 12, 12);
        due.argumentIsThrown("readLog(11, 1)", () -> x.readLog(11, 1));
        due.argumentIsThrown("readLog(12, 1)", () -> x.readLog(12, 1));
        due.argumentIsThrown("giveBack(13)", () -> x.giveBack(13));
        due.argumentIsThrown("force(11)", () -> x.force(11));
        due.is("force(12)", 0, x.force(12));
        due.is("append(4)", 12, x.append(4));
        due.logIs("with new words", x, 12, 12, 16);
    }

    private static void wrongArgumentsAreRefused() {
        WordMedium x = new WordMedium();
        x.fill(1, 1);
        x.append(64);
        x.append(36);
        x.force(50);
        for (int n : NO_COUNTS) {
            due.argumentIsThrown("append(" + n + ")", () -> x.append(n));
            due.argumentIsThrown("readLog(0, " + n + ")", () -> x.readLog(0, n));
            due.argumentIsThrown("readLog(-1, " + n + ")", () -> x.readLog(-1, n));
        }
        for (int place : new int[] {-1, 101, Integer.MIN_VALUE, Integer.MAX_VALUE, Integer.MAX_VALUE - 63}) {
            due.argumentIsThrown("force(" + place + ")", () -> x.force(place));
            due.argumentIsThrown("giveBack(" + place + ")", () -> x.giveBack(place));
            due.argumentIsThrown("readLog(" + place + ", 1)", () -> x.readLog(place, 1));
            due.argumentIsThrown("readLog(" + place + ", 64)", () -> x.readLog(place, 64));
        }
        due.argumentIsThrown("giveBack(51)", () -> x.giveBack(51));
        due.argumentIsThrown("readLog(100, 1)", () -> x.readLog(100, 1));
        due.argumentIsThrown("readLog(37, 64)", () -> x.readLog(37, 64));
        due.argumentIsThrown("readLog(99, 2)", () -> x.readLog(99, 2));
        due.argumentIsThrown("readLog(-1, 2)", () -> x.readLog(-1, 2));
        for (int which : new int[] {-1, 3, Integer.MIN_VALUE, Integer.MAX_VALUE}) {
            due.indexIsThrown("log(" + which + ")", () -> x.log(which));
        }
        due.logIs("after refused calls", x, 0, 50, 100);
        due.is("sum() after refused calls", 89440, x.sum());
        due.is("writes() after refused calls", 50, x.writes());
        x.readLog(36, 64);
        x.readLog(99, 1);
        x.giveBack(50);
        due.is("force(100)", 50, x.force(100));
    }

    private static void emptyLogsRefuse() {
        WordMedium x = new WordMedium();
        due.logIs("when new", x, 0, 0, 0);
        due.is("force(0) when new", 0, x.force(0));
        x.giveBack(0);
        due.argumentIsThrown("force(1) when new", () -> x.force(1));
        due.argumentIsThrown("giveBack(1) when new", () -> x.giveBack(1));
        due.argumentIsThrown("readLog(0, 1) when new", () -> x.readLog(0, 1));
        due.logIs("after that", x, 0, 0, 0);
    }

    private static void whilePowerIsOff() {
        WordMedium x = new WordMedium();
        x.append(10);
        x.force(6);
        x.giveBack(2);
        x.cut();
        due.offIsThrown("append(1) while off", () -> x.append(1));
        due.offIsThrown("append(0) while off", () -> x.append(0));
        due.offIsThrown("append(65) while off", () -> x.append(65));
        due.offIsThrown("force(6) while off", () -> x.force(6));
        due.offIsThrown("force(-1) while off", () -> x.force(-1));
        due.offIsThrown("readLog(2, 1) while off", () -> x.readLog(2, 1));
        due.offIsThrown("readLog(0, 0) while off", () -> x.readLog(0, 0));
        due.offIsThrown("giveBack(3) while off", () -> x.giveBack(3));
        due.offIsThrown("giveBack(7) while off", () -> x.giveBack(7));
        due.indexIsThrown("log(3) while off", () -> x.log(3));
        due.indexIsThrown("log(-1) while off", () -> x.log(-1));
        due.logIs("while off", x, 2, 6, 6);
        x.start();
        due.logIs("when on again", x, 2, 6, 6);
    }

    private static void theLongestLogOfOneRunHasRoom() {
        WordMedium x = new WordMedium();
        x.fill(1, 1);
        for (int k = 0; k < 504; k++) {
            due.is("append(64), number " + k, k * 64L, x.append(64));
        }
        due.is("force(32256)", 32256, x.force(32256));
        due.is("writes() of 504 appends", 32256, x.writes());
        x.giveBack(32193);
        due.is("append(1)", 32256, x.append(1));
        x.readLog(32193, 64);
        due.is("get(62), the last word forced", 64, x.get(62));
        due.is("get(63), the word in memory", 1, x.get(63));
    }

    private static void allForcedMayBeGivenBackAndNoMore() {
        WordMedium x = new WordMedium();
        x.fill(1, 1);
        x.append(20);
        x.force(9);
        due.argumentIsThrown("giveBack(10)", () -> x.giveBack(10));
        x.giveBack(9);
        due.logIs("when all that was forced is given back", x, 9, 9, 20);
        due.argumentIsThrown("giveBack(8)", () -> x.giveBack(8));
        due.argumentIsThrown("force(8)", () -> x.force(8));
        due.argumentIsThrown("readLog(8, 1)", () -> x.readLog(8, 1));
        x.readLog(9, 11);
        due.is("get(0) of what is in memory", 10, x.get(0));
        due.is("get(10) of what is in memory", 20, x.get(10));
        due.is("force(9), nothing to do", 0, x.force(9));
        due.is("force(10)", 1, x.force(10));
        x.giveBack(10);
        due.logIs("with one more given back", x, 10, 10, 20);
    }

    private static void oneTo64WordsAreReadAndAppended() {
        WordMedium x = new WordMedium();
        x.fill(1, 1);
        due.is("append(64)", 0, x.append(64));
        due.is("append(63)", 64, x.append(63));
        due.is("append(2)", 127, x.append(2));
        due.is("append(1)", 129, x.append(1));
        for (int n : new int[] {0, 65}) {
            due.argumentIsThrown("append(" + n + ")", () -> x.append(n));
            due.argumentIsThrown("readLog(0, " + n + ")", () -> x.readLog(0, n));
            due.argumentIsThrown("readLog(60, " + n + ")", () -> x.readLog(60, n));
        }
        due.logIs("of four appends", x, 0, 0, 130);
        x.readLog(66, 64);
        due.is("get(0) of 64 words", 3, x.get(0));
        due.is("get(63) of 64 words", 1, x.get(63));
        due.argumentIsThrown("readLog(67, 64)", () -> x.readLog(67, 64));
        x.readLog(128, 1);
        due.is("get(0) of one word", 2, x.get(0));
        due.is("get(1) beside it", 4, x.get(1));
        due.argumentIsThrown("readLog(130, 1)", () -> x.readLog(130, 1));
    }

    private static void appendedWordsAreCopiesOfTheBuffer() {
        WordMedium x = new WordMedium();
        x.fill(1, 1);
        x.append(64);
        x.fill(-1, -1);
        x.readLog(0, 1);
        due.is("get(0) of the log, the buffer filled since", 1, x.get(0));
        x.force(64);
        x.set(5, 77);
        x.readLog(5, 1);
        due.is("get(0) of the log, forced since", 6, x.get(0));
    }
}
