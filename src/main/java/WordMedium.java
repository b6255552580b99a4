import java.util.Arrays;

/**
 * A medium of words for an engine that must outlive losses of power: pages that are written by halves in two
 * areas, a log of which only the forced part is kept, four roots, and a buffer in memory. Power may be said to
 * fail before any least write: a half of a page, a word of the log, a root.
 */
public final class WordMedium {
    public static final int NONE = -1;

    private static final int AREAS = 2;
    private static final int PAGES = 256;
    private static final int PAGE_WORDS = 64;
    private static final int HALVES = 2;
    private static final int HALF_WORDS = 32;
    private static final int ROOTS = 4;

    /** A power of two, so that a place's low bits tell where its word stands, whatever the place is. */
    private static final int LOG_ROOM = 65536;

    private static final int WHOLE = 0;
    private static final int TORN = 1;
    private static final int LOST = 2;

    private static final int FIRST = 0;
    private static final int FORCED = 1;
    private static final int END = 2;

    private final int[] buffer;

    /** The words, stamps and losses of both areas' pages, page after page: see pageIndex. */
    private final int[] pageWords;
    private final int[] halfStamps;
    private final boolean[] lostPages;
    private int pageWritesBegun;

    /** The words from first to before end, each at its place's slot; the others' slots hold what is free. */
    private final int[] logWords;
    private int logFirst;
    private int logForced;
    private int logEnd;

    private final int[] rootWords;

    private boolean powerOn;
    /** How many least writes are made before power fails, or NONE when it does not. */
    private int writesUntilCut;
    private int leastWritesMade;

    public WordMedium() {
        buffer = new int[PAGE_WORDS];
        pageWords = new int[AREAS * PAGES * PAGE_WORDS];
        halfStamps = new int[AREAS * PAGES * HALVES];
        lostPages = new boolean[AREAS * PAGES];
        logWords = new int[LOG_ROOM];
        rootWords = new int[ROOTS];
        powerOn = true;
        writesUntilCut = NONE;
    }

    // The buffer

    public void set(int i, int v) throws IllegalStateException, IndexOutOfBoundsException {
        needPower();
        needIndex(i, PAGE_WORDS);
        buffer[i] = v;
    }

    public void fill(int a, int b) throws IllegalStateException {
        needPower();
        for (int i = 0; i < PAGE_WORDS; i++) {
            buffer[i] = a + i * b;
        }
    }

    public int get(int i) throws IndexOutOfBoundsException {
        needIndex(i, PAGE_WORDS);
        return buffer[i];
    }

    public int sum() {
        int sum = 0;
        for (int i = 0; i < PAGE_WORDS; i++) {
            sum += buffer[i] * (i + 1);
        }
        return sum;
    }

    // The pages

    public int write(int area, int page) throws IllegalStateException, IndexOutOfBoundsException {
        needPower();
        needPage(area, page);
        return writePage(pageIndex(area, page), buffer, 0);
    }

    public int read(int area, int page) throws IllegalStateException, IndexOutOfBoundsException {
        needPower();
        needPage(area, page);
        int index = pageIndex(area, page);
        int state = pageState(index);
        if (state == LOST) {
            Arrays.fill(buffer, 0);
        } else {
            System.arraycopy(pageWords, index * PAGE_WORDS, buffer, 0, PAGE_WORDS);
        }
        return state;
    }

    public int copy(int fromArea, int page) throws IllegalStateException, IndexOutOfBoundsException {
        needPower();
        needPage(fromArea, page);
        int from = pageIndex(fromArea, page);
        if (pageState(from) != WHOLE) {
            throw new IllegalStateException("the page is torn or lost");
        }
        return writePage(pageIndex(1 - fromArea, page), pageWords, from * PAGE_WORDS);
    }

    public void lose(int area, int page) throws IndexOutOfBoundsException {
        needPage(area, page);
        lostPages[pageIndex(area, page)] = true;
    }

    public int stamp(int area, int page, int half) throws IndexOutOfBoundsException {
        needPage(area, page);
        needIndex(half, HALVES);
        return halfStamps[pageIndex(area, page) * HALVES + half];
    }

    public int count(int area, int state) throws IndexOutOfBoundsException {
        needIndex(area, AREAS);
        needIndex(state, LOST + 1);
        int count = 0;
        for (int page = 0; page < PAGES; page++) {
            if (pageState(pageIndex(area, page)) == state) {
                count++;
            }
        }
        return count;
    }

    // The log

    public int append(int n) throws IllegalStateException, IllegalArgumentException {
        needPower();
        needWordCount(n);
        if (n > LOG_ROOM - (logEnd - logFirst)) {
            return NONE;
        }
        int place = logEnd;
        for (int i = 0; i < n; i++) {
            logWords[logSlot(place + i)] = buffer[i];
        }
        logEnd = place + n;
        return place;
    }

    public int force(int place) throws IllegalStateException, IllegalArgumentException {
        needPower();
        needPlace(place, logEnd);
        int before = logForced;
        while (logForced < place) {
            if (!makeLeastWrite()) {
                return NONE;
            }
            logForced++;
        }
        return logForced - before;
    }

    public void readLog(int place, int n) throws IllegalStateException, IllegalArgumentException {
        needPower();
        needWordCount(n);
        needPlace(place, logEnd - n);
        for (int i = 0; i < n; i++) {
            buffer[i] = logWords[logSlot(place + i)];
        }
    }

    public void giveBack(int place) throws IllegalStateException, IllegalArgumentException {
        needPower();
        needPlace(place, logForced);
        logFirst = place;
    }

    public int log(int which) throws IndexOutOfBoundsException {
        switch (which) {
            case FIRST:
                return logFirst;
            case FORCED:
                return logForced;
            case END:
                return logEnd;
            default:
                throw new IndexOutOfBoundsException("no such end of the log");
        }
    }

    // The roots

    public boolean setRoot(int k, int v) throws IllegalStateException, IndexOutOfBoundsException {
        needPower();
        needIndex(k, ROOTS);
        if (!makeLeastWrite()) {
            return false;
        }
        rootWords[k] = v;
        return true;
    }

    public int root(int k) throws IndexOutOfBoundsException {
        needIndex(k, ROOTS);
        return rootWords[k];
    }

    // The power

    public int writes() {
        return leastWritesMade;
    }

    public void cutAfter(int n) throws IllegalArgumentException {
        if (n < NONE) {
            throw new IllegalArgumentException("less than none");
        }
        writesUntilCut = n;
    }

    public boolean cut() {
        if (!powerOn) {
            return false;
        }
        failPower();
        return true;
    }

    public boolean start() {
        if (powerOn) {
            return false;
        }
        powerOn = true;
        // What was said of a failure, even while power was off, ends here.
        writesUntilCut = NONE;
        return true;
    }

    public boolean isOn() {
        return powerOn;
    }

    // What calls need

    private void needPower() {
        if (!powerOn) {
            throw new IllegalStateException("power is off");
        }
    }

    private static void needIndex(int index, int size) {
        if (index < 0 || index >= size) {
            throw new IndexOutOfBoundsException("no such area, page, half, state, word or root");
        }
    }

    private void needPage(int area, int page) {
        needIndex(area, AREAS);
        needIndex(page, PAGES);
    }

    private static void needWordCount(int n) {
        if (n < 1 || n > PAGE_WORDS) {
            throw new IllegalArgumentException("not 1 to 64 words");
        }
    }

    private void needPlace(int place, int last) {
        if (place < logFirst || place > last) {
            throw new IllegalArgumentException("the log has no such place");
        }
    }

    // The parts of the medium

    private static int pageIndex(int area, int page) {
        return area * PAGES + page;
    }

    private static int logSlot(int place) {
        return place & (LOG_ROOM - 1);
    }

    private int pageState(int index) {
        if (lostPages[index]) {
            return LOST;
        }
        return halfStamps[index * HALVES] == halfStamps[index * HALVES + 1] ? WHOLE : TORN;
    }

    /** Writes 64 words of source, from start on, to a page: the number of this page write, or NONE. */
    private int writePage(int index, int[] source, int start) {
        // A page write has its number even if power fails before its first half.
        pageWritesBegun++;
        for (int half = 0; half < HALVES; half++) {
            if (!makeLeastWrite()) {
                return NONE;
            }
            int offset = half * HALF_WORDS;
            System.arraycopy(source, start + offset, pageWords, index * PAGE_WORDS + offset, HALF_WORDS);
            halfStamps[index * HALVES + half] = pageWritesBegun;
        }
        // The second half never comes without the first: both are new now.
        lostPages[index] = false;
        return pageWritesBegun;
    }

    /** Counts one least write, which the caller then makes; or power fails and the caller must stop: false. */
    private boolean makeLeastWrite() {
        if (writesUntilCut == 0) {
            failPower();
            return false;
        }
        if (writesUntilCut != NONE) {
            writesUntilCut--;
        }
        leastWritesMade++;
        return true;
    }

    private void failPower() {
        powerOn = false;
        logEnd = logForced;
        Arrays.fill(buffer, 0);
    }
}
