import java.util.zip.Deflater;

/** The edges of promises 9 to 11, sentence by sentence: what stands in quotes is the document's. */
public final class ResultEdgesTest {
    private static final Class<IllegalArgumentException> ARGUMENT = IllegalArgumentException.class;
    private static final Class<IndexOutOfBoundsException> BOUNDS = IndexOutOfBoundsException.class;
    private static final int LEAST = Integer.MIN_VALUE;
    private static final int MOST = Integer.MAX_VALUE;
    private static final Check CHECK = new Check();

    public static void main(String[] args) {
        sumOfNothing();
        sumOfOneByte();
        sumWrapsAround();
        sumIsAnInt();
        sumOfTheMost();
        wordOnBothSides();
        wordOfNothing();
        wordOfOneByte();
        wordHasZerosBehindTheEnd();
        wordHidesWhatWasThere();
        wordIsHighestFirst();
        wordOfTheMost();
        countOnBothSides();
        countOfNothing();
        countOfTheMost();
        asksChangeNothing();
        CHECK.end();
    }

    /** "of none 1". */
    private static void sumOfNothing() {
        FixedPress press = new FixedPress();
        CHECK.equal("of a new object", press.sum(), 1);
        press.fill(1, 256, 100);
        CHECK.equal("with a tape", press.sum(), 1);
        CHECK.equal("of none opened", withResult(new byte[0]).sum(), 1);
        FixedPress emptied = withResult(Bytes.text("not empty"));
        Bytes.load(emptied, Oracle.packed(new byte[0]));
        emptied.open(0);
        CHECK.equal("of none behind some", emptied.sum(), 1);
    }

    /** Both halves are one more than the byte, or the byte and one. */
    private static void sumOfOneByte() {
        for (int value : new int[] {0, 1, 127, 128, 255}) {
            CHECK.equal("of " + value, withResult(Bytes.of(value)).sum(), (value + 1) * 65537);
        }
    }

    /** "ADLER-32": both halves are taken modulo 65521. */
    private static void sumWrapsAround() {
        // 256 times 255 and 239, 240 or 241, and one: 65520, 65521 (none), 65522 (one).
        int[] lasts = {239, 240, 241};
        int[] lowHalves = {65520, 0, 1};
        for (int i = 0; i < 3; i++) {
            byte[] content = Bytes.join(Bytes.times(255, 256), Bytes.of(lasts[i]));
            int sum = withResult(content).sum();
            CHECK.equal("the low half by " + lasts[i], sum & 0xFFFF, lowHalves[i]);
            CHECK.equal("the sum by " + lasts[i], sum, State.sum(content));
        }
        // 1100 zeros make 1100 of the high half, and 21 times 255 makes 64282 of it with the next byte.
        int[] highHalves = {65520, 0, 1};
        for (int i = 0; i < 3; i++) {
            int last = 65520 - 64282 - 1100 + i;
            byte[] content = Bytes.join(Bytes.times(0, 1100), Bytes.times(255, 21), Bytes.of(last));
            int sum = withResult(content).sum();
            CHECK.equal("the high half by " + last, sum >>> 16, highHalves[i]);
            CHECK.equal("the sum by " + last, sum, State.sum(content));
        }
    }

    /** "as an int": one whose highest bit is set is negative. */
    private static void sumIsAnInt() {
        byte[] content = Bytes.times(255, 16);
        CHECK.equal("below", withResult(Bytes.times(255, 15)).sum(), 30615 * 65536 + 3826);
        CHECK.equal("above", withResult(content).sum(), 34696 * 65536 + 4081);
        CHECK.isTrue("negative", withResult(content).sum() < 0);
    }

    private static void sumOfTheMost() {
        for (int value : new int[] {0, 1, 255}) {
            byte[] content = Bytes.times(value, 8192);
            CHECK.equal("of 8192 times " + value, withResult(content).sum(), State.sum(content));
        }
        FixedPress packed = Bytes.withTape(Bytes.unlike(144, 4000));
        packed.pack();
        CHECK.equal("of the longest packed", packed.sum(), State.sum(Oracle.packed(Bytes.unlike(144, 4000))));
    }

    /** "i is none of its bytes: IndexOutOfBoundsException". */
    private static void wordOnBothSides() {
        byte[] content = Bytes.text("0123456789");
        FixedPress press = withResult(content);
        for (int i = 0; i < 10; i++) {
            CHECK.equal("word(" + i + ") begins", press.word(i) >>> 56, '0' + i);
        }
        for (int i : new int[] {-1, -2, -8, 10, 11, 17, 18, 8191, 8192, LEAST, LEAST + 7, MOST, MOST - 7, MOST - 8}) {
            State.changesNothing(CHECK, "word(" + i + ") of 10", BOUNDS, () -> withBoth(content), it -> it.word(i));
        }
    }

    private static void wordOfNothing() {
        for (int i : new int[] {-1, 0, 1, LEAST, MOST}) {
            State.changesNothing(CHECK, "word(" + i + ") of none", BOUNDS, () -> withBoth(new byte[0]), it -> it.word(i));
        }
    }

    private static void wordOfOneByte() {
        FixedPress press = withResult(Bytes.of(0xFE));
        CHECK.equal("word(0)", press.word(0), 0xFE00000000000000L);
        CHECK.refuses("word(1)", BOUNDS, () -> press.word(1));
        CHECK.refuses("word(-1)", BOUNDS, () -> press.word(-1));
    }

    /** "zeros behind its end": none where just 8 bytes are left, one where 7 are. */
    private static void wordHasZerosBehindTheEnd() {
        FixedPress press = withResult(Bytes.times(0xFF, 9));
        CHECK.equal("with 9 left", press.word(0), -1L);
        for (int left = 1; left <= 8; left++) {
            CHECK.equal("with " + left + " left", press.word(9 - left), -1L << 64 - 8 * left);
        }
    }

    /** "zeros behind its end": also where a longer result had been, by pack or by open. */
    private static void wordHidesWhatWasThere() {
        FixedPress press = withResult(Bytes.times(0xFF, 100));
        for (int i = 0; i < 4; i++) {
            Bytes.load(press, i < 2 ? Oracle.packed(Bytes.of(1, 2, 3)) : Oracle.packed(Bytes.of(9)));
            press.open(3);
            CHECK.equal("word(0)", press.word(0), i < 2 ? 0x0102030000000000L : 0x0900000000000000L);
            CHECK.refuses("word(3)", BOUNDS, () -> press.word(3));
        }
        press.fill(1, 256, 4000);
        press.pack();
        press.pack();
        CHECK.equal("word(7) of none packed", press.word(7), 0x0100000000000000L);
        CHECK.refuses("word(8)", BOUNDS, () -> press.word(8));
    }

    /** "8 bytes of THE RESULT from i on, the highest first". */
    private static void wordIsHighestFirst() {
        FixedPress press = withResult(Bytes.of(0x80, 1, 0x7F, 0xFF, 0, 0x81, 2, 0xFE, 0x7F, 0xAA));
        CHECK.equal("word(0)", press.word(0), 0x80017FFF008102FEL);
        CHECK.equal("word(1)", press.word(1), 0x017FFF008102FE7FL);
        CHECK.equal("word(2)", press.word(2), 0x7FFF008102FE7FAAL);
    }

    private static void wordOfTheMost() {
        byte[] content = Bytes.times('w', 8192);
        content[8184] = 1;
        content[8191] = 2;
        FixedPress press = withResult(content);
        CHECK.equal("word(8183)", press.word(8183), 0x7701777777777777L);
        CHECK.equal("word(8184)", press.word(8184), 0x0177777777777702L);
        CHECK.equal("word(8185)", press.word(8185), 0x7777777777770200L);
        CHECK.equal("word(8191)", press.word(8191), 0x0200000000000000L);
        CHECK.refuses("word(8192)", BOUNDS, () -> press.word(8192));
    }

    /** "what 0, 1". */
    private static void countOnBothSides() {
        FixedPress press = withBoth(Bytes.text("eleven byte"));
        CHECK.equal("count(0)", press.count(0), 33);
        CHECK.equal("count(1)", press.count(1), 11);
        for (int what : new int[] {-1, -2, 2, 3, 256, LEAST, MOST}) {
            State.changesNothing(CHECK, "count(" + what + ")", ARGUMENT, () -> withBoth(Bytes.text("some")),
                    it -> it.count(what));
        }
    }

    private static void countOfNothing() {
        FixedPress press = new FixedPress();
        CHECK.equal("count(0)", press.count(0), 0);
        CHECK.equal("count(1)", press.count(1), 0);
        for (int what : new int[] {-1, 2}) {
            CHECK.refuses("count(" + what + ")", ARGUMENT, () -> press.count(what));
        }
    }

    private static void countOfTheMost() {
        FixedPress press = withResult(Bytes.times('c', 8192));
        press.fill(1, 256, 4000);
        CHECK.equal("count(0)", press.count(0), 4000);
        CHECK.equal("count(1)", press.count(1), 8192);
    }

    /** Three calls only answer, however often. */
    private static void asksChangeNothing() {
        FixedPress press = withBoth(Bytes.text("asked"));
        for (int i = 0; i < 3; i++) {
            CHECK.equal("sum", press.sum(), State.sum(Bytes.text("asked")));
            CHECK.equal("word", press.word(1), 0x736B656400000000L);
            CHECK.equal("count(0)", press.count(0), 33);
            CHECK.equal("count(1)", press.count(1), 5);
        }
        State.result(CHECK, "asked", press, Bytes.text("asked"));
        FixedPress other = new FixedPress();
        other.fill(4, 256, 33);
        State.tape(CHECK, "asked", press, Bytes.tape(other));
    }

    private static FixedPress withResult(byte[] content) {
        FixedPress press = Bytes.withTape(Oracle.deflated(content, 9, Deflater.DEFAULT_STRATEGY));
        CHECK.equal("open", press.open(8192), content.length);
        return press;
    }

    /** With a tape of 33 bytes too. */
    private static FixedPress withBoth(byte[] content) {
        FixedPress press = withResult(content);
        press.fill(4, 256, 33);
        return press;
    }
}
