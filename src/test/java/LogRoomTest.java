/**
 * The log's room (promise 9): 65536 words at a time. No run of 512 calls can fill it, so this test goes beyond what
 * is promised; it holds the program to the document's words all the same.
 */
public final class LogRoomTest {
    private static final Due due = new Due("LogRoomTest");

    public static void main(String[] args) {
        WordMedium x = new WordMedium();
        for (int k = 0; k < 1023; k++) {
            x.fill(k * 64, 1);
            due.is("append(64), number " + k, k * 64L, x.append(64));
        }
        due.is("append(63)", 65472, x.append(63));
        due.is("append(2) with room for one", WordMedium.NONE, x.append(2));
        due.is("append(64) with room for one", WordMedium.NONE, x.append(64));
        due.is("log(2) after refused appends", 65535, x.log(2));
        due.is("append(1) with room for one", 65535, x.append(1));
        due.is("append(1) with no room", WordMedium.NONE, x.append(1));
        due.argumentIsThrown("append(0) with no room", () -> x.append(0));
        due.is("force(100)", 100, x.force(100));
        x.giveBack(70);
        x.fill(-1, -1);
        due.is("append(64) when 70 words were given back", 65536, x.append(64));
        due.is("append(7) with room for six", WordMedium.NONE, x.append(7));
        due.is("append(6) with room for six", 65600, x.append(6));
        due.is("log(2)", 65606, x.log(2));
        x.readLog(70, 64);
        due.is("get(0) of the oldest", 70, x.get(0));
        due.is("get(63) of the oldest", 133, x.get(63));
        x.readLog(65535, 64);
        due.is("get(1) of the newest", -1, x.get(1));
        due.is("get(63) of the newest", -63, x.get(63));
        x.cut();
        x.start();
        due.is("log(2) after a cut", 100, x.log(2));
        due.is("append(5) after a cut", 100, x.append(5));
        due.end();
    }
}
