import java.util.ArrayList;
import java.util.List;

/**
 * The document once more, in another way, for comparison: each call is named by a text and answers a text, and power
 * fails by an exception of this class that unwinds the call, so that it stops between any two least writes.
 */
final class PlainMedium {
    static final String[] CALLS = {"set", "fill", "get", "sum", "write", "read", "copy", "append", "force", "readLog",
        "giveBack", "log", "setRoot", "root", "lose", "stamp", "count", "writes", "cutAfter", "cut", "start", "isOn"};

    private static final class PowerFailed extends RuntimeException {
        private static final long serialVersionUID = 1L;
    }

    private static final class Page {
        final int[][] words = new int[2][32];
        final int[] stamps = new int[2];
        final boolean[] writtenSinceLost = {true, true};

        int state() {
            if (!writtenSinceLost[0] || !writtenSinceLost[1]) {
                return 2;
            }
            return stamps[0] == stamps[1] ? 0 : 1;
        }
    }

    private final Page[][] pages = new Page[2][256];
    private final int[] roots = new int[4];
    private final List<Integer> onMedium = new ArrayList<>();
    private final List<Integer> inMemory = new ArrayList<>();
    private int first = 0;
    private int[] buffer = new int[64];
    private boolean on = true;
    private int made = 0;
    private int cutAt = Integer.MAX_VALUE;
    private int pageWrites = 0;

    PlainMedium() {
        for (Page[] area : pages) {
            for (int page = 0; page < 256; page++) {
                area[page] = new Page();
            }
        }
    }

    String call(String name, int a, int b, int c) {
        try {
            switch (name) {
                case "write":
                    return "" + write(page(a, b, true), buffer.clone());
                case "copy":
                    return "" + copy(a, b);
                case "force":
                    return "" + force(a);
                case "setRoot":
                    return setRoot(a, b);
                default:
                    return smallCall(name, a, b, c);
            }
        } catch (PowerFailed failed) {
            fail();
            return name.equals("setRoot") ? "false" : "-1";
        } catch (RuntimeException refused) {
            return "throws." + refused.getClass().getSimpleName();
        }
    }

    private String smallCall(String name, int a, int b, int c) {
        switch (name) {
            case "set":
                state(on);
                index(a, 64);
                buffer[a] = b;
                return "";
            case "fill":
                state(on);
                buffer[0] = a;
                for (int i = 1; i < 64; i++) {
                    buffer[i] = buffer[i - 1] + b;
                }
                return "";
            case "get":
                return "" + buffer[index(a, 64)];
            case "sum":
                return "" + sum();
            case "read":
                return "" + read(page(a, b, true));
            case "append":
                return "" + append(a);
            case "readLog":
                return readLog(a, b);
            case "giveBack":
                state(on);
                argument(a >= first && a <= onMedium.size());
                first = a;
                return "";
            case "log":
                return "" + new int[] {first, onMedium.size(), end()}[index(a, 3)];
            case "root":
                return "" + roots[index(a, 4)];
            default:
                return question(name, a, b, c);
        }
    }

    private String question(String name, int a, int b, int c) {
        switch (name) {
            case "lose":
                Page lost = page(a, b, false);
                lost.writtenSinceLost[0] = false;
                lost.writtenSinceLost[1] = false;
                return "";
            case "stamp":
                return "" + page(a, b, false).stamps[index(c, 2)];
            case "count":
                return "" + count(index(a, 2), index(b, 3));
            case "writes":
                return "" + made;
            case "cutAfter":
                argument(a >= -1);
                cutAt = a == -1 ? Integer.MAX_VALUE : made + a;
                return "";
            case "cut":
                boolean was = on;
                if (on) {
                    fail();
                }
                return "" + was;
            case "start":
                if (on) {
                    return "false";
                }
                on = true;
                cutAt = Integer.MAX_VALUE;
                return "true";
            case "isOn":
                return "" + on;
            default:
                throw new AssertionError(name);
        }
    }

    private static void state(boolean good) {
        if (!good) {
            throw new IllegalStateException();
        }
    }

    private static void argument(boolean good) {
        if (!good) {
            throw new IllegalArgumentException();
        }
    }

    private static int index(int index, int size) {
        if (index < 0 || index >= size) {
            throw new IndexOutOfBoundsException();
        }
        return index;
    }

    private Page page(int area, int page, boolean powerIsNeeded) {
        state(on || !powerIsNeeded);
        return pages[index(area, 2)][index(page, 256)];
    }

    private void leastWrite() {
        if (made == cutAt) {
            throw new PowerFailed();
        }
        made++;
    }

    private void fail() {
        on = false;
        inMemory.clear();
        buffer = new int[64];
    }

    private int sum() {
        int sum = 0;
        for (int i = 63, rest = 0; i >= 0; i--) {
            rest += buffer[i];
            sum += rest;
        }
        return sum;
    }

    private int write(Page to, int[] words) {
        int number = ++pageWrites;
        for (int half = 0; half < 2; half++) {
            leastWrite();
            for (int i = 0; i < 32; i++) {
                to.words[half][i] = words[half * 32 + i];
            }
            to.stamps[half] = number;
            to.writtenSinceLost[half] = true;
        }
        return number;
    }

    private int read(Page from) {
        for (int i = 0; i < 64; i++) {
            buffer[i] = from.state() == 2 ? 0 : from.words[i / 32][i % 32];
        }
        return from.state();
    }

    private int copy(int area, int number) {
        Page from = page(area, number, true);
        state(from.state() == 0);
        int[] words = new int[64];
        for (int i = 0; i < 64; i++) {
            words[i] = from.words[i / 32][i % 32];
        }
        return write(pages[1 - area][number], words);
    }

    private int count(int area, int state) {
        int count = 0;
        for (Page page : pages[area]) {
            count += page.state() == state ? 1 : 0;
        }
        return count;
    }

    private int end() {
        return onMedium.size() + inMemory.size();
    }

    private int append(int n) {
        state(on);
        argument(n >= 1 && n <= 64);
        int place = end();
        if (place + n - first > 65536) {
            return -1;
        }
        for (int i = 0; i < n; i++) {
            inMemory.add(buffer[i]);
        }
        return place;
    }

    private int force(int place) {
        state(on);
        argument(place >= first && place <= end());
        int words = 0;
        while (onMedium.size() < place) {
            leastWrite();
            onMedium.add(inMemory.remove(0));
            words++;
        }
        return words;
    }

    private String readLog(int place, int n) {
        state(on);
        argument(n >= 1 && n <= 64);
        argument(place >= first && (long) place + n <= end());
        for (int i = 0; i < n; i++) {
            int at = place + i;
            buffer[i] = at < onMedium.size() ? onMedium.get(at) : inMemory.get(at - onMedium.size());
        }
        return "";
    }

    private String setRoot(int k, int v) {
        state(on);
        index(k, 4);
        leastWrite();
        roots[k] = v;
        return "true";
    }
}
