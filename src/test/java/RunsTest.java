import java.util.ArrayList;
import java.util.List;
import java.util.Random;

/** Runs of 512 calls, each answer compared with that of a PlainMedium (all promises together). */
public final class RunsTest {
    private static final Due due = new Due("RunsTest");
    private static final int RUNS = 3000;
    private static final int CALLS_OF_A_RUN = 512;
    /** From here on a run only asks and reads, so that all that it left behind is compared. */
    private static final int ASKED_FROM = 400;
    private static final int[] ODD = {-1, -2, 2, 3, 4, 64, 65, 256, 257, Integer.MIN_VALUE, Integer.MAX_VALUE};

    private final Random random;
    private final WordMedium real = new WordMedium();
    private final PlainMedium plain = new PlainMedium();
    private final List<String> row = new ArrayList<>();
    private final int oftenOff;

    private RunsTest(int run) {
        random = new Random(run);
        oftenOff = random.nextInt(4);
    }

    public static void main(String[] args) {
        for (int run = 0; run < RUNS; run++) {
            if (!new RunsTest(run).isAsDue(run)) {
                break;
            }
        }
        due.end();
    }

    private boolean isAsDue(int run) {
        for (int k = 0; k < CALLS_OF_A_RUN; k++) {
            String name = k < ASKED_FROM ? anyCall() : lastCall(k);
            int a = firstArgument(name);
            int b = secondArgument(name);
            int c = pick(2, 20);
            String want = plain.call(name, a, b, c);
            String got = answer(name, a, b, c);
            String told = name + "(" + a + ", " + b + ", " + c + ")";
            row.add(told + " " + got);
            due.is("run " + run + ", call " + k + ", " + told, want, got);
            if (!want.equals(got)) {
                row.forEach(System.out::println);
                return false;
            }
        }
        return true;
    }

    private String anyCall() {
        String name = PlainMedium.CALLS[random.nextInt(PlainMedium.CALLS.length)];
        boolean off = plain.call("isOn", 0, 0, 0).equals("false");
        if (off && random.nextInt(4) == 0) {
            return "start";
        }
        // A run that is off all the time shows little.
        if (name.equals("cut") && random.nextInt(4) > oftenOff) {
            return "fill";
        }
        return name;
    }

    private String lastCall(int k) {
        if (k == ASKED_FROM) {
            return "start";
        }
        String[] names = {"read", "sum", "readLog", "sum", "get", "stamp", "root", "log", "count", "writes"};
        return names[k % names.length];
    }

    private int firstArgument(String name) {
        switch (name) {
            case "set":
            case "get":
                return pick(64, 10);
            case "fill":
                return random.nextInt();
            case "append":
                return 1 + pick(64, 10);
            case "force":
            case "readLog":
            case "giveBack":
                return place();
            case "log":
                return pick(3, 10);
            case "setRoot":
            case "root":
                return pick(4, 10);
            case "cutAfter":
                return random.nextInt(8) == 0 ? odd() : random.nextInt(30) - 1;
            default:
                return pick(2, 15);
        }
    }

    private int secondArgument(String name) {
        switch (name) {
            case "write":
            case "read":
            case "copy":
            case "lose":
            case "stamp":
                // Few pages, so that they meet again: the first, the last, and some between.
                return random.nextInt(15) == 0 ? odd() : new int[] {0, 1, 100, 255}[random.nextInt(4)];
            case "count":
                return pick(3, 10);
            case "readLog":
                return random.nextInt(2) == 0 ? 1 + random.nextInt(4) : 1 + pick(64, 10);
            default:
                return random.nextInt();
        }
    }

    /** Places round the log's three ends, most often, or odd ones. */
    private int place() {
        if (random.nextInt(15) == 0) {
            return odd();
        }
        int end = Integer.parseInt(plain.call("log", random.nextInt(3), 0, 0));
        return end + random.nextInt(random.nextInt(3) == 0 ? 70 : 5) - random.nextInt(random.nextInt(3) == 0 ? 70 : 3);
    }

    private int pick(int size, int oddOf) {
        return random.nextInt(oddOf) == 0 ? odd() : random.nextInt(size);
    }

    private int odd() {
        return ODD[random.nextInt(ODD.length)];
    }

    private String answer(String name, int a, int b, int c) {
        try {
            return made(name, a, b, c);
        } catch (RuntimeException e) {
            return "throws." + e.getClass().getSimpleName();
        }
    }

    private String made(String name, int a, int b, int c) {
        switch (name) {
            case "set": real.set(a, b); return "";
            case "fill": real.fill(a, b); return "";
            case "get": return "" + real.get(a);
            case "sum": return "" + real.sum();
            case "write": return "" + real.write(a, b);
            case "read": return "" + real.read(a, b);
            case "copy": return "" + real.copy(a, b);
            case "append": return "" + real.append(a);
            case "force": return "" + real.force(a);
            case "readLog": real.readLog(a, b); return "";
            case "giveBack": real.giveBack(a); return "";
            case "log": return "" + real.log(a);
            case "setRoot": return "" + real.setRoot(a, b);
            case "root": return "" + real.root(a);
            case "lose": real.lose(a, b); return "";
            case "stamp": return "" + real.stamp(a, b, c);
            case "count": return "" + real.count(a, b);
            case "writes": return "" + real.writes();
            case "cutAfter": real.cutAfter(a); return "";
            case "cut": return "" + real.cut();
            case "start": return "" + real.start();
            case "isOn": return "" + real.isOn();
            default: throw new AssertionError(name);
        }
    }
}
