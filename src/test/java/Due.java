import java.nio.ByteBuffer;
import java.nio.charset.StandardCharsets;
import java.util.Arrays;

/** What the tests share: answers held against those that are due, and texts put on the tape. */
final class Due {
    private static int count;
    private static int wrong;
    private static String promise = "";

    private Due() { }

    static void promise(int number, String name) {
        promise = "promise " + number + " (" + name + ")";
    }

    static void is(String call, int got, int due) {
        count++;
        if (got != due) {
            wrong++;
            System.out.println(promise + ": " + call + " answered " + got + ", due is " + due);
        }
    }

    static void is(String call, boolean got, boolean due) {
        is(call, got ? 1 : 0, due ? 1 : 0);
    }

    static void holds(String what, boolean so) {
        is(what, so, true);
    }

    /** The tape is this text alone, then it is read: its number or NONE. */
    static int read(NoonBasins x, String text) {
        put(x, text);
        return x.text();
    }

    /** The tape is this text alone. */
    static void put(NoonBasins x, String text) {
        byte[] bytes = text.getBytes(StandardCharsets.ISO_8859_1);
        x.end(0);
        ByteBuffer fed = ByteBuffer.wrap(Arrays.copyOf(bytes, (bytes.length + 19) / 20 * 20));
        while (fed.remaining() > 0) {
            x.feed(fed.getInt(), fed.getInt(), fed.getInt(), fed.getInt(), fed.getInt());
        }
        x.end(bytes.length);
    }

    /** An object without BASINS yet, with this text as THE TEXT. */
    static NoonBasins ruled(String text) {
        NoonBasins x = new NoonBasins();
        is("text() of " + text, read(x, text), 0);
        x.by(0);
        return x;
    }

    static void close() {
        System.out.println(count + " answers, " + wrong + " of them wrong");
        if (wrong > 0 || count == 0) {
            System.exit(1);
        }
    }
}
