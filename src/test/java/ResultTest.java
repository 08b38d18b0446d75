import java.util.zip.Adler32;

/** Promises 9 to 11: sum, word and count. */
public final class ResultTest {
    private static final Class<IllegalArgumentException> ARGUMENT = IllegalArgumentException.class;
    private static final Class<IndexOutOfBoundsException> BOUNDS = IndexOutOfBoundsException.class;
    private static final Check CHECK = new Check();

    public static void main(String[] args) {
        sum();
        word();
        count();
        CHECK.end();
    }

    private static void sum() {
        CHECK.equal("sum of none", new FixedPress().sum(), 1);
        CHECK.equal("sum of Wikipedia", withResult(Bytes.text("Wikipedia")).sum(), 0x11E60398);
        for (int many : new int[] {1, 100, 256, 257, 258, 3000, 8192}) {
            byte[] content = Bytes.times(255, many);
            Adler32 adler = new Adler32();
            adler.update(content);
            CHECK.equal("sum of " + many, withResult(content).sum(), (int) adler.getValue());
        }
        FixedPress press = withResult(Bytes.text("abc"));
        press.feed(1, 2, 3, 4, 5);
        CHECK.equal("the tape is not summed", press.sum(), 0x024D0127);
    }

    private static void word() {
        FixedPress press = withResult(Bytes.of(1, 2, 3, 255, 5, 6, 7, 8, 128, 10));
        CHECK.equal("word(0)", press.word(0), 0x010203FF05060708L);
        CHECK.equal("word(1)", press.word(1), 0x0203FF0506070880L);
        CHECK.equal("word(2)", press.word(2), 0x03FF05060708800AL);
        CHECK.equal("word(3)", press.word(3), 0xFF05060708800A00L);
        CHECK.equal("word(9)", press.word(9), 0x0A00000000000000L);
        for (int i : new int[] {10, -1, 8191, 8192, Integer.MAX_VALUE, Integer.MIN_VALUE}) {
            CHECK.refuses("word(" + i + ")", BOUNDS, () -> press.word(i));
        }
        byte[] longest = Bytes.times('a', 8192);
        longest[8191] = 'z';
        FixedPress full = withResult(longest);
        CHECK.equal("word(8191)", full.word(8191), 0x7A00000000000000L);
        CHECK.equal("word(8184)", full.word(8184), 0x616161616161617AL);
        // A shorter result shows nothing of the longer ones before it.
        for (int i = 0; i < 2; i++) {
            Bytes.load(full, Oracle.deflated(Bytes.text("q"), 9, 0));
            full.open(1);
            CHECK.equal("zeros behind the end", full.word(0), 0x7100000000000000L);
            CHECK.refuses("word(1)", BOUNDS, () -> full.word(1));
        }
    }

    private static void count() {
        FixedPress press = withResult(Bytes.text("hello"));
        press.feed(1, 2, 3, 4, 5);
        CHECK.equal("count(0)", press.count(0), 20);
        CHECK.equal("count(1)", press.count(1), 5);
        for (int what : new int[] {-1, 2, Integer.MAX_VALUE, Integer.MIN_VALUE}) {
            CHECK.refuses("count(" + what + ")", ARGUMENT, () -> press.count(what));
        }
        CHECK.equal("count(0)", press.count(0), 20);
        CHECK.equal("count(1)", press.count(1), 5);
    }

    private static FixedPress withResult(byte[] content) {
        FixedPress press = Bytes.withTape(Oracle.deflated(content, 9, 0));
        CHECK.equal("open", press.open(8192), content.length);
        return press;
    }
}
