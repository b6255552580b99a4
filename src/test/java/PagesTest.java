/** Promises 6 to 8 and 16 to 18: write, read, copy, lose, stamp, count. */
public final class PagesTest {
    private static final Due due = new Due("PagesTest");
    private static final int[][] NO_PAGES = {{-1, 0}, {2, 0}, {0, -1}, {0, 256}, {1, -1}, {1, 256},
        {Integer.MIN_VALUE, 5}, {Integer.MAX_VALUE, 5}, {1, Integer.MIN_VALUE}, {0, Integer.MAX_VALUE}, {-1, 256},
        {-1, 300}, {2, -256}, {1 << 24, 0}, {0, 1 << 26}};

    public static void main(String[] args) {
        pagesAreWrittenAndRead();
        areasAndPagesStandApart();
        everyPageIsAnother();
        writesFailBeforeTheFirstHalf();
        writesFailBetweenTheHalves();
        tornPagesAreMadeWhole();
        lostPagesAreReadAsZeros();
        lostPagesStayLostUntilBothHalvesAreWritten();
        pagesAreLostWhilePowerIsOff();
        copiesGoToTheOtherArea();
        copiesGoFromTheFirstAndTheLastPage();
        copiesFail();
        copiesEndWithTheLastPower();
        tornAndLostPagesAreNotCopied();
        pagesWrittenAgainAreCopied();
        copiesMendTheOtherPage();
        statesAreCounted();
        wrongPagesAreRefused();
        whilePowerIsOff();
        due.end();
    }

    private static void pagesAreWrittenAndRead() {
        WordMedium x = new WordMedium();
        x.fill(5, 7);
        due.is("write(0, 3)", 1, x.write(0, 3));
        due.isFilled("after write", x, 5, 7);
        due.is("writes() after a page", 2, x.writes());
        due.stampsAre("after write", x, 0, 3, 1, 1);
        x.fill(-1, -1);
        due.is("write(0, 3) again", 2, x.write(0, 3));
        x.fill(0, 0);
        due.is("read(0, 3)", 0, x.read(0, 3));
        due.isFilled("after read", x, -1, -1);
        due.is("writes() after two pages and a read", 4, x.writes());
        due.stampsAre("after two writes", x, 0, 3, 2, 2);
        x.fill(9, 9);
        due.is("read(0, 4), never written", 0, x.read(0, 4));
        due.isFilled("after read of a page never written", x, 0, 0);
        x.fill(8, 8);
        x.read(0, 3);
        x.set(0, 77);
        x.read(0, 4);
        x.read(0, 3);
        due.isFilled("after another read: the buffer is not the page", x, -1, -1);
    }

    private static void areasAndPagesStandApart() {
        WordMedium x = new WordMedium();
        int[] pages = {0, 1, 127, 128, 254, 255};
        for (int k = 0; k < pages.length; k++) {
            x.fill(k, 1);
            due.is("write(0, " + pages[k] + ")", 2 * k + 1, x.write(0, pages[k]));
            x.fill(k, 1000);
            due.is("write(1, " + pages[k] + ")", 2 * k + 2, x.write(1, pages[k]));
        }
        for (int k = 0; k < pages.length; k++) {
            x.read(0, pages[k]);
            due.is("sum() of page " + pages[k], k * 2080 + 87360, x.sum());
            x.read(1, pages[k]);
            due.is("sum() of copy " + pages[k], k * 2080 + 87360 * 1000, x.sum());
            due.stampsAre("of many", x, 0, pages[k], 2 * k + 1, 2 * k + 1);
            due.stampsAre("of many", x, 1, pages[k], 2 * k + 2, 2 * k + 2);
        }
        due.countsAre("of many", x, 0, 0, 0);
        due.countsAre("of many", x, 1, 0, 0);
    }

    private static void everyPageIsAnother() {
        for (int area = 0; area < 2; area++) {
            WordMedium x = new WordMedium();
            for (int page = 0; page < 256; page++) {
                x.write(area, page);
            }
            for (int page = 0; page < 256; page += 2) {
                due.is("stamp of page " + page, page + 1, x.stamp(area, page, page / 2 % 2));
            }
            for (int page = 1; page < 256; page += 17) {
                due.is("stamp of page " + page + " in the other area", 0, x.stamp(1 - area, page, 0));
            }
        }
    }

    private static void writesFailBeforeTheFirstHalf() {
        WordMedium x = new WordMedium();
        x.fill(1, 1);
        x.write(1, 7);
        x.fill(100, 100);
        x.cutAfter(0);
        due.is("write(1, 7) without power", WordMedium.NONE, x.write(1, 7));
        due.is("isOn() after it", false, x.isOn());
        due.is("sum() after it", 0, x.sum());
        due.is("writes() after it", 2, x.writes());
        due.stampsAre("after it", x, 1, 7, 1, 1);
        x.start();
        due.is("read(1, 7) after it", 0, x.read(1, 7));
        due.isFilled("after a write that never began", x, 1, 1);
        due.is("write(1, 7): the number in between was given", 3, x.write(1, 7));
    }

    private static void writesFailBetweenTheHalves() {
        WordMedium x = new WordMedium();
        x.fill(1, 1);
        x.write(0, 255);
        x.fill(100, 100);
        x.cutAfter(1);
        due.is("write(0, 255) cut in the middle", WordMedium.NONE, x.write(0, 255));
        due.is("isOn() after it", false, x.isOn());
        due.is("sum() after it", 0, x.sum());
        due.is("writes() after it", 3, x.writes());
        due.stampsAre("of a torn page", x, 0, 255, 2, 1);
        due.countsAre("with a torn page", x, 0, 1, 0);
        due.countsAre("beside a torn page", x, 1, 0, 0);
        x.start();
        due.is("read(0, 255), torn", 1, x.read(0, 255));
        for (int i = 0; i < 64; i++) {
            due.is("get(" + i + ") of a torn page", i < 32 ? 100 + i * 100 : 1 + i, x.get(i));
        }
        x.cutAfter(2);
        due.is("write(0, 0) with power for it", 3, x.write(0, 0));
        due.is("isOn() when all that was said is used up", true, x.isOn());
    }

    private static void tornPagesAreMadeWhole() {
        WordMedium x = new WordMedium();
        for (int k = 1; k <= 3; k++) {
            x.fill(k, k);
            x.cutAfter(1);
            due.is("write(1, 0) cut", WordMedium.NONE, x.write(1, 0));
            x.start();
            due.stampsAre("cut " + k + " times", x, 1, 0, k, 0);
            due.countsAre("cut " + k + " times", x, 1, 1, 0);
        }
        x.fill(6, 0);
        due.is("write(1, 0)", 4, x.write(1, 0));
        due.stampsAre("whole again", x, 1, 0, 4, 4);
        due.countsAre("whole again", x, 1, 0, 0);
        due.is("read(1, 0) whole again", 0, x.read(1, 0));
        due.isFilled("whole again", x, 6, 0);
    }

    private static void lostPagesAreReadAsZeros() {
        WordMedium x = new WordMedium();
        x.fill(1, 1);
        x.write(0, 9);
        x.lose(0, 9);
        due.is("writes() after lose", 2, x.writes());
        due.isFilled("after lose", x, 1, 1);
        due.stampsAre("of a lost page", x, 0, 9, 1, 1);
        due.countsAre("with a lost page", x, 0, 0, 1);
        due.countsAre("beside a lost page", x, 1, 0, 0);
        due.is("read(0, 9), lost", 2, x.read(0, 9));
        due.isFilled("of a lost page", x, 0, 0);
        x.lose(0, 9);
        due.countsAre("lost twice", x, 0, 0, 1);
        x.fill(4, 4);
        due.is("read(1, 9), not lost", 0, x.read(1, 9));
        due.is("read(0, 8), not lost", 0, x.read(0, 8));
        x.lose(1, 255);
        due.countsAre("with the last page lost", x, 1, 0, 1);
    }

    private static void lostPagesStayLostUntilBothHalvesAreWritten() {
        WordMedium x = new WordMedium();
        x.fill(1, 1);
        x.write(0, 9);
        x.lose(0, 9);
        for (int k = 0; k < 3; k++) {
            x.fill(50, 0);
            x.cutAfter(1);
            due.is("write(0, 9) cut, lost", WordMedium.NONE, x.write(0, 9));
            due.stampsAre("torn and lost", x, 0, 9, 2 + k, 1);
            due.countsAre("torn and lost", x, 0, 0, 1);
            x.start();
            x.fill(3, 3);
            due.is("read(0, 9), torn and lost", 2, x.read(0, 9));
            due.isFilled("torn and lost", x, 0, 0);
        }
        x.cutAfter(0);
        x.write(0, 9);
        x.start();
        due.is("read(0, 9) after a write that never began", 2, x.read(0, 9));
        x.fill(2, 5);
        due.is("write(0, 9), both halves", 6, x.write(0, 9));
        due.is("read(0, 9), found again", 0, x.read(0, 9));
        due.isFilled("found again", x, 2, 5);
        due.countsAre("found again", x, 0, 0, 0);
    }

    private static void pagesAreLostWhilePowerIsOff() {
        WordMedium x = new WordMedium();
        x.fill(1, 1);
        x.write(1, 30);
        x.cut();
        x.lose(1, 30);
        due.countsAre("lost while off", x, 1, 0, 1);
        x.start();
        due.is("read(1, 30), lost while off", 2, x.read(1, 30));
    }

    private static void copiesGoToTheOtherArea() {
        WordMedium x = new WordMedium();
        x.fill(1, 1);
        x.write(0, 200);
        x.fill(2, 2);
        x.write(1, 201);
        x.fill(3, 3);
        due.is("copy(0, 200)", 3, x.copy(0, 200));
        due.is("copy(1, 201)", 4, x.copy(1, 201));
        due.isFilled("after copies: not by way of the buffer", x, 3, 3);
        due.is("writes() after two pages and two copies", 8, x.writes());
        due.stampsAre("where it came from", x, 0, 200, 1, 1);
        due.stampsAre("where it went", x, 1, 200, 3, 3);
        due.stampsAre("where it went", x, 0, 201, 4, 4);
        due.is("read(1, 200)", 0, x.read(1, 200));
        due.isFilled("of a copy", x, 1, 1);
        due.is("read(0, 201)", 0, x.read(0, 201));
        due.isFilled("of a copy back", x, 2, 2);
        due.is("read(0, 200)", 0, x.read(0, 200));
        due.isFilled("of what was copied", x, 1, 1);
        due.is("copy(0, 0), never written", 5, x.copy(0, 0));
        x.fill(8, 8);
        x.write(0, 200);
        x.read(1, 200);
        due.isFilled("of a copy whose page was written since", x, 1, 1);
    }

    private static void copiesGoFromTheFirstAndTheLastPage() {
        for (int area = 0; area < 2; area++) {
            for (int page = 0; page < 256; page += 255) {
                WordMedium x = new WordMedium();
                x.fill(page + 1, area + 1);
                x.write(area, page);
                x.fill(9, 9);
                due.is("copy(" + area + ", " + page + ")", 2, x.copy(area, page));
                due.is("read(" + (1 - area) + ", " + page + ")", 0, x.read(1 - area, page));
                due.isFilled("of a copy", x, page + 1, area + 1);
                due.is("read(" + area + ", " + page + ")", 0, x.read(area, page));
                due.isFilled("of what was copied", x, page + 1, area + 1);
                due.is("read(" + area + ", " + (255 - page) + "), another", 0, x.read(area, 255 - page));
                due.isFilled("of another page", x, 0, 0);
            }
        }
    }

    private static void copiesFail() {
        WordMedium x = new WordMedium();
        x.fill(1, 1);
        x.write(0, 5);
        x.fill(10, 10);
        x.write(1, 5);
        x.fill(9, 9);
        x.cutAfter(0);
        due.is("copy(0, 5) without power", WordMedium.NONE, x.copy(0, 5));
        due.is("isOn() after it", false, x.isOn());
        due.is("sum() after it", 0, x.sum());
        due.stampsAre("after it", x, 1, 5, 2, 2);
        x.start();
        x.cutAfter(1);
        due.is("copy(0, 5) cut in the middle", WordMedium.NONE, x.copy(0, 5));
        due.is("writes() after it", 5, x.writes());
        due.stampsAre("of a torn copy", x, 1, 5, 4, 2);
        due.stampsAre("beside a torn copy", x, 0, 5, 1, 1);
        due.countsAre("with a torn copy", x, 1, 1, 0);
        x.start();
        due.is("read(1, 5), torn", 1, x.read(1, 5));
        for (int i = 0; i < 64; i++) {
            due.is("get(" + i + ") of a torn copy", i < 32 ? 1 + i : 10 + i * 10, x.get(i));
        }
        due.is("copy(0, 5)", 5, x.copy(0, 5));
        due.is("read(1, 5)", 0, x.read(1, 5));
    }

    private static void copiesEndWithTheLastPower() {
        WordMedium x = new WordMedium();
        x.fill(1, 1);
        x.write(0, 5);
        x.cutAfter(2);
        due.is("copy(0, 5) with power for it", 2, x.copy(0, 5));
        due.is("isOn() after it", true, x.isOn());
        due.is("copy(1, 5) without power", WordMedium.NONE, x.copy(1, 5));
        due.is("isOn() after that", false, x.isOn());
        due.stampsAre("of what was copied", x, 0, 5, 1, 1);
        due.stampsAre("of the copy", x, 1, 5, 2, 2);
    }

    private static void pagesWrittenAgainAreCopied() {
        WordMedium x = new WordMedium();
        x.cutAfter(1);
        x.write(0, 6);
        x.start();
        x.lose(0, 7);
        for (int page = 6; page <= 7; page++) {
            int of = page;
            due.offIsThrown("copy(0, " + of + ")", () -> x.copy(0, of));
            x.fill(of, 1);
            x.write(0, of);
            due.is("copy(0, " + of + ") written again", 2 * of - 9, x.copy(0, of));
            due.is("read(1, " + of + ")", 0, x.read(1, of));
            due.isFilled("of the copy", x, of, 1);
        }
    }

    private static void tornAndLostPagesAreNotCopied() {
        WordMedium x = new WordMedium();
        x.cutAfter(1);
        x.write(0, 6);
        x.start();
        x.lose(1, 8);
        x.fill(1, 1);
        x.cutAfter(5);
        due.offIsThrown("copy(0, 6), torn", () -> x.copy(0, 6));
        due.offIsThrown("copy(1, 8), lost", () -> x.copy(1, 8));
        x.lose(0, 6);
        due.offIsThrown("copy(0, 6), torn and lost", () -> x.copy(0, 6));
        due.is("isOn() after refused copies", true, x.isOn());
        due.is("writes() after refused copies", 1, x.writes());
        due.isFilled("after refused copies", x, 1, 1);
        due.stampsAre("of a refused copy", x, 1, 6, 0, 0);
        due.is("write(0, 0): refused copies took no number", 2, x.write(0, 0));
        due.is("writes() after it", 3, x.writes());
    }

    private static void copiesMendTheOtherPage() {
        WordMedium x = new WordMedium();
        x.fill(1, 1);
        x.write(0, 6);
        x.lose(1, 6);
        x.cutAfter(1);
        due.is("copy(0, 6) cut", WordMedium.NONE, x.copy(0, 6));
        x.start();
        due.is("read(1, 6), still lost", 2, x.read(1, 6));
        due.is("copy(0, 6) onto a torn and lost page", 3, x.copy(0, 6));
        due.is("read(1, 6), found again", 0, x.read(1, 6));
        due.isFilled("found again", x, 1, 1);
        due.countsAre("found again", x, 1, 0, 0);
    }

    private static void statesAreCounted() {
        WordMedium x = new WordMedium();
        for (int page = 0; page < 5; page++) {
            x.cutAfter(1);
            x.write(0, page * 60);
            x.start();
        }
        x.lose(0, 60);
        x.lose(0, 61);
        x.lose(1, 255);
        due.countsAre("of both areas", x, 0, 4, 2);
        due.countsAre("of both areas", x, 1, 0, 1);
        x.write(0, 0);
        x.write(0, 60);
        due.countsAre("after writes", x, 0, 3, 1);
    }

    private static void wrongPagesAreRefused() {
        WordMedium x = new WordMedium();
        x.fill(1, 1);
        for (int[] no : NO_PAGES) {
            String page = "(" + no[0] + ", " + no[1] + ")";
            due.indexIsThrown("write" + page, () -> x.write(no[0], no[1]));
            due.indexIsThrown("read" + page, () -> x.read(no[0], no[1]));
            due.indexIsThrown("copy" + page, () -> x.copy(no[0], no[1]));
            due.indexIsThrown("lose" + page, () -> x.lose(no[0], no[1]));
            due.indexIsThrown("stamp" + page, () -> x.stamp(no[0], no[1], 0));
        }
        for (int half : new int[] {-1, 2, Integer.MIN_VALUE, Integer.MAX_VALUE}) {
            due.indexIsThrown("stamp(0, 0, " + half + ")", () -> x.stamp(0, 0, half));
            due.indexIsThrown("stamp(1, 255, " + half + ")", () -> x.stamp(1, 255, half));
        }
        for (int no : new int[] {-1, 3, Integer.MIN_VALUE, Integer.MAX_VALUE}) {
            due.indexIsThrown("count(0, " + no + ")", () -> x.count(0, no));
            due.indexIsThrown("count(1, " + no + ")", () -> x.count(1, no));
            due.indexIsThrown("count(" + no + ", 0)", () -> x.count(no, 0));
        }
        due.indexIsThrown("count(2, 0)", () -> x.count(2, 0));
        due.isFilled("after refused calls", x, 1, 1);
        due.is("writes() after refused calls", 0, x.writes());
        due.countsAre("after refused calls", x, 0, 0, 0);
        due.countsAre("after refused calls", x, 1, 0, 0);
        due.is("write(0, 0): refused writes took no number", 1, x.write(0, 0));
    }

    private static void whilePowerIsOff() {
        WordMedium x = new WordMedium();
        x.write(0, 1);
        x.cut();
        due.offIsThrown("write(0, 0) while off", () -> x.write(0, 0));
        due.offIsThrown("read(0, 0) while off", () -> x.read(0, 0));
        due.offIsThrown("copy(0, 0) while off", () -> x.copy(0, 0));
        for (int[] no : NO_PAGES) {
            String page = "(" + no[0] + ", " + no[1] + ") while off";
            due.offIsThrown("write" + page, () -> x.write(no[0], no[1]));
            due.offIsThrown("read" + page, () -> x.read(no[0], no[1]));
            due.offIsThrown("copy" + page, () -> x.copy(no[0], no[1]));
            due.indexIsThrown("lose" + page, () -> x.lose(no[0], no[1]));
            due.indexIsThrown("stamp" + page, () -> x.stamp(no[0], no[1], 1));
        }
        due.indexIsThrown("count(0, 3) while off", () -> x.count(0, 3));
        due.stampsAre("while off", x, 0, 1, 1, 1);
        due.countsAre("while off", x, 0, 0, 0);
        x.start();
        due.is("write(0, 0): writes while off took no number", 2, x.write(0, 0));
    }
}
