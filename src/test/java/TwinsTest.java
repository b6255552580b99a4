import java.util.ArrayList;
import java.util.List;

/**
 * "A call that throws changes nothing; of several exceptions the one that stands first in the throws clause is
 * thrown": every such call is made on one of two objects with the same past, and all that both answer from then on,
 * with a failure of power in between, is compared. So are the calls that are answered but change nothing.
 */
public final class TwinsTest {
    private static final Due due = new Due("TwinsTest");
    private static final int MIN = Integer.MIN_VALUE;
    private static final int MAX = Integer.MAX_VALUE;
    /** The pages that made and answers touch, of both areas. */
    private static final int[] PAGES = {0, 7, 9, 11, 100, 101, 255};

    private static final Class<? extends RuntimeException> NOTHING = null;
    private static final Class<? extends RuntimeException> STATE = IllegalStateException.class;
    private static final Class<? extends RuntimeException> INDEX = IndexOutOfBoundsException.class;
    private static final Class<? extends RuntimeException> ARGUMENT = IllegalArgumentException.class;

    private enum Past { NEW, USED, ABOUT_TO_FAIL, CUT, FAILED }

    private interface Call {
        void make(WordMedium x);
    }

    private static final class Row {
        final String name;
        final Class<? extends RuntimeException> due;
        final Call call;

        Row(String name, Class<? extends RuntimeException> due, Call call) {
            this.name = name;
            this.due = due;
            this.call = call;
        }
    }

    private final List<Row> rows = new ArrayList<>();
    private final boolean off;
    private final int first;
    private final int forced;
    private final int end;

    private TwinsTest(WordMedium x) {
        off = !x.isOn();
        first = x.log(0);
        forced = x.log(1);
        end = x.log(2);
    }

    public static void main(String[] args) {
        for (Past past : Past.values()) {
            TwinsTest test = new TwinsTest(made(past));
            test.addBufferRows();
            test.addPageRows();
            test.addLogRows();
            test.addOtherRows();
            if (past != Past.NEW) {
                test.addCopyRows();
            }
            String untouched = answers(made(past));
            for (Row row : test.rows) {
                compare(past, row, untouched);
            }
        }
        due.end();
    }

    private static void compare(Past past, Row row, String untouched) {
        WordMedium x = made(past);
        String name = row.name + " (" + past + ")";
        if (row.due == NOTHING) {
            row.call.make(x);
        } else {
            due.isThrown(name, row.due, () -> row.call.make(x));
        }
        due.is("what follows " + name, untouched, answers(x));
    }

    // The rows: calls that throw, and those that change nothing.

    /** A call that needs power: while it is off, that is what is thrown, whatever else is wrong. */
    private void addWithPower(String name, Class<? extends RuntimeException> thrown, Call call) {
        rows.add(new Row(name, off ? STATE : thrown, call));
    }

    private void addAlways(String name, Class<? extends RuntimeException> thrown, Call call) {
        rows.add(new Row(name, thrown, call));
    }

    /** A call that would change something if power were on. */
    private void addWhileOff(String name, Call call) {
        if (off) {
            rows.add(new Row(name, STATE, call));
        }
    }

    private void addBufferRows() {
        for (int i : new int[] {-1, 64, MIN, MAX}) {
            addWithPower("set(" + i + ", 5)", INDEX, x -> x.set(i, 5));
            addAlways("get(" + i + ")", INDEX, x -> x.get(i));
        }
        addWhileOff("set(0, 5)", x -> x.set(0, 5));
        addWhileOff("set(63, 5)", x -> x.set(63, 5));
        addWhileOff("fill(4, 4)", x -> x.fill(4, 4));
        addAlways("get(0)", NOTHING, x -> x.get(0));
        addAlways("get(63)", NOTHING, x -> x.get(63));
        addAlways("sum()", NOTHING, x -> x.sum());
    }

    private void addPageRows() {
        int[][] noPages = {{-1, 0}, {2, 0}, {0, -1}, {0, 256}, {1, -1}, {1, 256}, {-1, 256}, {2, -256}, {MIN, 0},
            {MAX, 0}, {0, MIN}, {1, MAX}};
        for (int[] no : noPages) {
            String page = "(" + no[0] + ", " + no[1] + ")";
            addWithPower("write" + page, INDEX, x -> x.write(no[0], no[1]));
            addWithPower("read" + page, INDEX, x -> x.read(no[0], no[1]));
            addWithPower("copy" + page, INDEX, x -> x.copy(no[0], no[1]));
            addAlways("lose" + page, INDEX, x -> x.lose(no[0], no[1]));
            addAlways("stamp" + page, INDEX, x -> x.stamp(no[0], no[1], 0));
        }
        for (int half : new int[] {-1, 2, MIN, MAX}) {
            addAlways("stamp(0, 0, " + half + ")", INDEX, x -> x.stamp(0, 0, half));
            addAlways("stamp(1, 255, " + half + ")", INDEX, x -> x.stamp(1, 255, half));
        }
        for (int[] no : new int[][] {{-1, 0}, {2, 0}, {0, -1}, {0, 3}, {1, -1}, {1, 3}, {MIN, 1}, {MAX, 2}, {1, MAX}}) {
            addAlways("count(" + no[0] + ", " + no[1] + ")", INDEX, x -> x.count(no[0], no[1]));
        }
        addWhileOff("write(0, 0)", x -> x.write(0, 0));
        addWhileOff("read(1, 255)", x -> x.read(1, 255));
        addWhileOff("copy(0, 0)", x -> x.copy(0, 0));
        addAlways("stamp(1, 255, 1)", NOTHING, x -> x.stamp(1, 255, 1));
        addAlways("count(1, 2)", NOTHING, x -> x.count(1, 2));
    }

    /** See made: which pages are torn, lost, or both. */
    private void addCopyRows() {
        addWithPower("copy(0, 7), torn", STATE, x -> x.copy(0, 7));
        addWithPower("copy(0, 9), lost", STATE, x -> x.copy(0, 9));
        addWithPower("copy(1, 0), lost", STATE, x -> x.copy(1, 0));
        addWithPower("copy(0, 11), torn and lost", STATE, x -> x.copy(0, 11));
        addAlways("lose(0, 9), lost already", NOTHING, x -> x.lose(0, 9));
    }

    private void addLogRows() {
        for (int n : new int[] {0, 65, -1, MIN, MAX}) {
            addWithPower("append(" + n + ")", ARGUMENT, x -> x.append(n));
            addWithPower("readLog(" + first + ", " + n + ")", ARGUMENT, x -> x.readLog(first, n));
            addWithPower("readLog(-1, " + n + ")", ARGUMENT, x -> x.readLog(-1, n));
        }
        for (int place : new int[] {first - 1, end + 1, MIN, MAX}) {
            addWithPower("force(" + place + ")", ARGUMENT, x -> x.force(place));
        }
        for (int place : new int[] {first - 1, forced + 1, end + 1, MIN, MAX}) {
            addWithPower("giveBack(" + place + ")", ARGUMENT, x -> x.giveBack(place));
        }
        int[][] noWords = {{first - 1, 1}, {first - 1, 2}, {first - 64, 64}, {end, 1}, {end - 1, 2}, {end - 63, 64},
            {MAX, 1}, {MAX, 64}, {MAX - 63, 64}, {MIN, 1}, {MIN, 64}};
        for (int[] no : noWords) {
            addWithPower("readLog(" + no[0] + ", " + no[1] + ")", ARGUMENT, x -> x.readLog(no[0], no[1]));
        }
        addWithPower("force(FIRST)", NOTHING, x -> x.force(first));
        addWithPower("force(FORCED)", NOTHING, x -> x.force(forced));
        addWithPower("giveBack(FIRST)", NOTHING, x -> x.giveBack(first));
        addWhileOff("append(1)", x -> x.append(1));
        addWhileOff("append(64)", x -> x.append(64));
        addWhileOff("readLog(FIRST, 1)", x -> x.readLog(first, 1));
        addWhileOff("giveBack(FORCED)", x -> x.giveBack(forced));
    }

    private void addOtherRows() {
        for (int no : new int[] {-1, 3, MIN, MAX}) {
            addAlways("log(" + no + ")", INDEX, x -> x.log(no));
        }
        for (int no : new int[] {-1, 4, MIN, MAX}) {
            addAlways("root(" + no + ")", INDEX, x -> x.root(no));
            addWithPower("setRoot(" + no + ", 5)", INDEX, x -> x.setRoot(no, 5));
        }
        for (int no : new int[] {-2, -3, MIN}) {
            addAlways("cutAfter(" + no + ")", ARGUMENT, x -> x.cutAfter(no));
        }
        addWhileOff("setRoot(0, 5)", x -> x.setRoot(0, 5));
        addWhileOff("setRoot(3, 5)", x -> x.setRoot(3, 5));
        addAlways("log(0)", NOTHING, x -> x.log(0));
        addAlways("root(3)", NOTHING, x -> x.root(3));
        addAlways("writes()", NOTHING, x -> x.writes());
        addAlways("isOn()", NOTHING, x -> x.isOn());
        if (off) {
            addAlways("cut() while off", NOTHING, x -> x.cut());
        } else {
            addAlways("start() while on", NOTHING, x -> x.start());
        }
    }

    // The objects, and what they answer.

    private static WordMedium made(Past past) {
        WordMedium x = new WordMedium();
        if (past == Past.NEW) {
            return x;
        }
        x.fill(1, 1);
        x.write(0, 0);
        x.write(0, 255);
        x.write(1, 255);
        for (int page = 7; page <= 11; page += 4) {
            x.fill(2, page);
            x.cutAfter(1);
            x.write(0, page);
            x.start();
        }
        x.lose(0, 9);
        x.lose(0, 11);
        x.lose(1, 0);
        x.fill(5, 3);
        x.append(64);
        x.append(36);
        x.force(70);
        x.giveBack(65);
        x.setRoot(0, 8);
        x.setRoot(3, -8);
        x.fill(-9, 11);
        endPast(past, x);
        return x;
    }

    private static void endPast(Past past, WordMedium x) {
        switch (past) {
            case USED:
                x.cutAfter(3);
                break;
            case ABOUT_TO_FAIL:
                x.cutAfter(0);
                break;
            case CUT:
                x.cut();
                break;
            default:
                x.cutAfter(1);
                x.write(1, 7);
                break;
        }
    }

    /** Some 400 calls, so that with its past and the call between them an object stays below 512. */
    private static String answers(WordMedium x) {
        StringBuilder told = new StringBuilder();
        askAll(told, x);
        told.append(" start ").append(x.start());
        readLogWhole(told, x);
        // Of these six least writes some come before the failure that was said, and one meets it.
        told.append(" page ").append(answer(x, () -> x.write(1, 100)));
        told.append(" root ").append(answer(x, () -> x.setRoot(1, 7) ? 1 : 0));
        told.append(" copy ").append(answer(x, () -> x.copy(0, 255)));
        told.append(" root ").append(answer(x, () -> x.setRoot(2, 7) ? 1 : 0));
        told.append(" on ").append(x.isOn()).append(" start ").append(x.start());
        askAll(told, x);
        told.append(" page ").append(x.write(1, 101));
        for (int page : PAGES) {
            told.append(" read ").append(x.read(0, page)).append(' ').append(x.sum());
            told.append(' ').append(x.read(1, page)).append(' ').append(x.sum());
        }
        readLogWhole(told, x);
        return told.toString();
    }

    private interface Answer {
        int of();
    }

    private static String answer(WordMedium x, Answer answer) {
        return x.isOn() ? "" + answer.of() : "off";
    }

    private static void askAll(StringBuilder told, WordMedium x) {
        told.append(" on ").append(x.isOn()).append(" writes ").append(x.writes()).append(" buffer");
        for (int i = 0; i < 64; i++) {
            told.append(' ').append(x.get(i));
        }
        told.append(" sum ").append(x.sum());
        told.append(" log ").append(x.log(0)).append(' ').append(x.log(1)).append(' ').append(x.log(2)).append(" roots");
        for (int k = 0; k < 4; k++) {
            told.append(' ').append(x.root(k));
        }
        for (int area = 0; area < 2; area++) {
            told.append(" stamps");
            for (int page : PAGES) {
                told.append(' ').append(x.stamp(area, page, 0)).append(' ').append(x.stamp(area, page, 1));
            }
            told.append(" counts");
            for (int state = 0; state < 3; state++) {
                told.append(' ').append(x.count(area, state));
            }
        }
    }

    private static void readLogWhole(StringBuilder told, WordMedium x) {
        for (int place = x.log(0); place < x.log(2); place++) {
            x.readLog(place, 1);
            told.append(' ').append(x.get(0));
        }
    }
}
