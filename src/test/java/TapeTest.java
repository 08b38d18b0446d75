/** Promises 1 to 4, 7 and 8: a new object, feed, end, fill, back, patch; and count of the tape. */
public final class TapeTest {
    private static final Class<IllegalArgumentException> ARGUMENT = IllegalArgumentException.class;
    private static final Class<IndexOutOfBoundsException> BOUNDS = IndexOutOfBoundsException.class;
    private static final Check CHECK = new Check();

    public static void main(String[] args) {
        newObject();
        feed();
        feedHasRoom();
        end();
        fill();
        fillRefuses();
        back();
        backRefuses();
        patch();
        CHECK.end();
    }

    private static void newObject() {
        FixedPress press = new FixedPress();
        CHECK.equal("count(0) of a new object", press.count(0), 0);
        CHECK.equal("count(1) of a new object", press.count(1), 0);
        CHECK.equal("sum() of a new object", press.sum(), 1);
        CHECK.refuses("word(0) of a new object", BOUNDS, () -> press.word(0));
        CHECK.equal("back() of a new object", press.back(), 0);
        press.feed(1, 2, 3, 4, 5);
        CHECK.equal("count(0) of another new object", new FixedPress().count(0), 0);
    }

    private static void feed() {
        FixedPress press = new FixedPress();
        CHECK.equal("feed", press.feed(0x01020304, 0x05060708, 0xFFFEFDFC, 0x80000000, 0x0000007F), 20);
        CHECK.bytes("the tape", Bytes.tape(press),
                Bytes.of(1, 2, 3, 4, 5, 6, 7, 8, 255, 254, 253, 252, 128, 0, 0, 0, 0, 0, 0, 127));
        CHECK.equal("feed again", press.feed(-1, 0, 0, 0, -1), 40);
        CHECK.equal("byte 20", press.patch(20, 0), 255);
        CHECK.equal("byte 39", press.patch(39, 0), 255);
        CHECK.equal("byte 0", press.patch(0, 0), 1);
        CHECK.equal("count(1)", press.count(1), 0);
    }

    private static void feedHasRoom() {
        FixedPress press = new FixedPress();
        for (int i = 1; i <= 200; i++) {
            CHECK.equal("feed", press.feed(i, i, i, i, i), 20 * i);
        }
        CHECK.refuses("feed beyond 4000", BOUNDS, () -> press.feed(1, 2, 3, 4, 5));
        CHECK.equal("count(0)", press.count(0), 4000);
        CHECK.equal("the last byte", press.patch(3999, 0), 200);
        press.end(3981);
        CHECK.refuses("feed to 4001", BOUNDS, () -> press.feed(1, 2, 3, 4, 5));
        CHECK.equal("count(0)", press.count(0), 3981);
        press.end(3980);
        CHECK.equal("feed to 4000", press.feed(1, 2, 3, 4, 5), 4000);
    }

    private static void end() {
        FixedPress press = Bytes.withTape(Bytes.text("abcdef"));
        CHECK.refuses("end(7) of 6", ARGUMENT, () -> press.end(7));
        CHECK.refuses("end(-1)", ARGUMENT, () -> press.end(-1));
        CHECK.refuses("end of the least", ARGUMENT, () -> press.end(Integer.MIN_VALUE));
        CHECK.refuses("end of the most", ARGUMENT, () -> press.end(Integer.MAX_VALUE));
        CHECK.equal("count(0)", press.count(0), 6);
        CHECK.equal("end of all", press.end(6), 6);
        CHECK.equal("end", press.end(4), 4);
        CHECK.bytes("the tape", Bytes.tape(press), Bytes.text("abcd"));
        press.feed(0x78797A00, 0, 0, 0, 0);
        press.end(6);
        CHECK.bytes("the tape", Bytes.tape(press), Bytes.text("abcdxy"));
        CHECK.equal("end(0)", press.end(0), 0);
        CHECK.equal("count(0)", press.count(0), 0);
        CHECK.equal("end(0) of none", press.end(0), 0);
        CHECK.refuses("end(1) of none", ARGUMENT, () -> press.end(1));
    }

    private static void fill() {
        FixedPress press = Bytes.withTape(Bytes.text("ab"));
        CHECK.equal("fill", press.fill(1, 256, 3), 5);
        // 1103527590 >>> 16 is 16838, and so on by the document's rule.
        CHECK.bytes("the tape", Bytes.tape(press), Bytes.of('a', 'b', 16838 % 256, made(1, 2, 256), made(1, 3, 256)));
        for (int bound : new int[] {1, 2, 3, 10, 255, 256}) {
            for (int seed : new int[] {0, 1, -1, 12345, Integer.MIN_VALUE, Integer.MAX_VALUE}) {
                FixedPress other = new FixedPress();
                CHECK.equal("fill", other.fill(seed, bound, 50), 50);
                for (int i = 0; i < 50; i++) {
                    CHECK.equal("byte " + i + " by " + seed + ", " + bound, other.patch(i, 0), made(seed, i + 1, bound));
                }
            }
        }
        FixedPress full = new FixedPress();
        CHECK.equal("fill of none", full.fill(1, 2, 0), 0);
        CHECK.equal("fill of all", full.fill(1, 2, 4000), 4000);
        CHECK.equal("fill of none", full.fill(1, 2, 0), 4000);
    }

    private static int made(int seed, int times, int bound) {
        long s = seed;
        for (int i = 0; i < times; i++) {
            s = (s * 1103515245L + 12345L) & 0xFFFFFFFFL;
        }
        return (int) ((s >> 16) % bound);
    }

    private static void fillRefuses() {
        FixedPress press = Bytes.withTape(Bytes.text("abc"));
        CHECK.refuses("bound 0", ARGUMENT, () -> press.fill(1, 0, 1));
        CHECK.refuses("bound -1", ARGUMENT, () -> press.fill(1, -1, 1));
        CHECK.refuses("bound 257", ARGUMENT, () -> press.fill(1, 257, 1));
        CHECK.refuses("n -1", ARGUMENT, () -> press.fill(1, 2, -1));
        CHECK.refuses("n 4001", ARGUMENT, () -> press.fill(1, 2, 4001));
        CHECK.refuses("n the most", ARGUMENT, () -> press.fill(1, 2, Integer.MAX_VALUE));
        CHECK.refuses("bound 0 and no room", ARGUMENT, () -> press.fill(1, 0, 4000));
        CHECK.refuses("no room for 4000", BOUNDS, () -> press.fill(1, 2, 4000));
        CHECK.refuses("no room for 3998", BOUNDS, () -> press.fill(1, 2, 3998));
        CHECK.bytes("the tape", Bytes.tape(press), Bytes.text("abc"));
        CHECK.equal("room for 3997", press.fill(1, 2, 3997), 4000);
        CHECK.refuses("no room for 1", BOUNDS, () -> press.fill(1, 2, 1));
    }

    private static void back() {
        FixedPress press = Bytes.withTape(Bytes.text("abc"));
        press.pack();
        byte[] packed = Bytes.result(press);
        press.fill(1, 2, 100);
        CHECK.equal("back", press.back(), packed.length);
        CHECK.bytes("the tape", Bytes.tape(press), packed);
        CHECK.bytes("the result stays", Bytes.result(press), packed);
        press.patch(0, 1);
        CHECK.bytes("the result is its own", Bytes.result(press), packed);
    }

    private static void backRefuses() {
        for (int many : new int[] {3999, 4000, 4001, 8192}) {
            FixedPress press = withResult(many);
            press.fill(3, 256, 7);
            byte[] tape = Bytes.tape(press);
            if (many > 4000) {
                CHECK.refuses("back of " + many, BOUNDS, press::back);
                CHECK.bytes("the tape", Bytes.tape(press), tape);
            } else {
                CHECK.equal("back of " + many, press.back(), many);
            }
            CHECK.equal("count(1)", press.count(1), many);
        }
    }

    private static FixedPress withResult(int many) {
        byte[] content = Bytes.times('x', many);
        FixedPress press = Bytes.withTape(Oracle.deflated(content, 9, java.util.zip.Deflater.DEFAULT_STRATEGY));
        CHECK.equal("open", press.open(8192), many);
        return press;
    }

    private static void patch() {
        FixedPress press = Bytes.withTape(Bytes.of(1, 200, 3));
        CHECK.equal("patch", press.patch(1, 0x12345678), 200);
        CHECK.equal("patch", press.patch(1, -1), 0x78);
        CHECK.equal("patch", press.patch(0, 256), 1);
        CHECK.equal("patch", press.patch(2, 128), 3);
        CHECK.bytes("the tape", Bytes.tape(press), Bytes.of(0, 255, 128));
        CHECK.refuses("patch(3)", ARGUMENT, () -> press.patch(3, 1));
        CHECK.refuses("patch(-1)", ARGUMENT, () -> press.patch(-1, 1));
        CHECK.refuses("patch of the most", ARGUMENT, () -> press.patch(Integer.MAX_VALUE, 1));
        CHECK.bytes("the tape", Bytes.tape(press), Bytes.of(0, 255, 128));
        press.end(0);
        CHECK.refuses("patch of none", ARGUMENT, () -> press.patch(0, 1));
    }
}
