import java.util.Arrays;
import java.util.zip.Deflater;

/** The edges of promises 1 to 4, 7 and 8, sentence by sentence: what stands in quotes is the document's. */
public final class TapeEdgesTest {
    private static final Class<IllegalArgumentException> ARGUMENT = IllegalArgumentException.class;
    private static final Class<IndexOutOfBoundsException> BOUNDS = IndexOutOfBoundsException.class;
    private static final int LEAST = Integer.MIN_VALUE;
    private static final int MOST = Integer.MAX_VALUE;
    private static final Check CHECK = new Check();

    public static void main(String[] args) {
        newTapeIsEmpty();
        newResultIsEmpty();
        newObjectsAreApart();
        feedTakesEveryInt();
        feedToTheLastByte();
        feedOfOneByteTooMany();
        endOnBothSides();
        endOfNothing();
        endOfAFullTape();
        endCutsForGood();
        fillNumberOnBothSides();
        fillOfNothing();
        fillBoundOnBothSides();
        fillWrapsAround();
        fillOfAsMuchAsThereIsRoom();
        fillOfOneByteTooMany();
        fillLooksAtNumbersFirst();
        backOfNothing();
        backOfTheMost();
        backOfOneByteTooMany();
        backTakesThePlaceOfTheTape();
        backLeavesTheResult();
        patchOnBothSides();
        patchOfNothing();
        patchOfAFullTape();
        patchTakesTheLowestByte();
        patchAnswersNoNegative();
        CHECK.end();
    }

    /** "THE TAPE ... empty". */
    private static void newTapeIsEmpty() {
        CHECK.equal("count(0)", new FixedPress().count(0), 0);
        CHECK.equal("end(0)", new FixedPress().end(0), 0);
        CHECK.refuses("end(1)", ARGUMENT, () -> new FixedPress().end(1));
        CHECK.refuses("patch(0)", ARGUMENT, () -> new FixedPress().patch(0, 1));
        CHECK.equal("pack()", new FixedPress().pack(), 8);
        CHECK.refuses("open()", UnsupportedOperationException.class, () -> new FixedPress().open(8192));
        CHECK.equal("feed()", new FixedPress().feed(1, 2, 3, 4, 5), 20);
        CHECK.equal("fill()", new FixedPress().fill(1, 256, 4000), 4000);
    }

    /** "... and THE RESULT are empty". */
    private static void newResultIsEmpty() {
        CHECK.equal("count(1)", new FixedPress().count(1), 0);
        CHECK.equal("sum()", new FixedPress().sum(), 1);
        CHECK.equal("back()", new FixedPress().back(), 0);
        CHECK.refuses("word(0)", BOUNDS, () -> new FixedPress().word(0));
        CHECK.refuses("word(-1)", BOUNDS, () -> new FixedPress().word(-1));
    }

    private static void newObjectsAreApart() {
        FixedPress first = Bytes.withTape(Bytes.text("first"));
        first.pack();
        first.fill(1, 2, 30);
        FixedPress second = new FixedPress();
        CHECK.equal("the second's tape", second.count(0), 0);
        CHECK.equal("the second's result", second.count(1), 0);
        second.feed(1, 2, 3, 4, 5);
        second.pack();
        CHECK.equal("the first's tape", first.count(0), 30);
        State.result(CHECK, "the first's result", first, Oracle.packed(Bytes.text("first")));
    }

    /** "The 20 bytes of five ints, the highest of each first": no int is out of range. */
    private static void feedTakesEveryInt() {
        FixedPress press = new FixedPress();
        CHECK.equal("feed", press.feed(LEAST, MOST, -1, 0, 0x80FF7F01), 20);
        byte[] due = Bytes.of(128, 0, 0, 0, 127, 255, 255, 255, 255, 255, 255, 255, 0, 0, 0, 0, 128, 255, 127, 1);
        CHECK.bytes("the tape", Bytes.tape(press), due);
        State.tape(CHECK, "fed", press, due);
    }

    /** "it would have more than 4000": 4000 themselves are right. */
    private static void feedToTheLastByte() {
        FixedPress full = new FixedPress();
        for (int i = 1; i <= 200; i++) {
            CHECK.equal("feed " + i, full.feed(i, i, i, i, 0x01020300 + i), 20 * i);
        }
        CHECK.equal("the last byte but one", full.patch(3998, 3), 3);
        CHECK.equal("the last byte", full.patch(3999, 200), 200);
        for (int many : new int[] {0, 1, 19, 20, 3979, 3980}) {
            FixedPress press = filled(many);
            CHECK.equal("feed behind " + many, press.feed(5, 6, 7, 8, 9), many + 20);
            CHECK.equal("the first of its bytes", press.patch(many, 0), 0);
            CHECK.equal("the last of its bytes", press.patch(many + 19, 0), 9);
        }
    }

    /** "it would have more than 4000: IndexOutOfBoundsException". */
    private static void feedOfOneByteTooMany() {
        for (int many : new int[] {3981, 3982, 3990, 3999, 4000}) {
            State.changesNothing(CHECK, "feed behind " + many, BOUNDS, () -> filledWithResult(many),
                    press -> press.feed(-1, -1, -1, -1, -1));
        }
    }

    /** "n 0 .. its length. Answers n". */
    private static void endOnBothSides() {
        byte[] bytes = Bytes.text("abcdefg");
        for (int n = 0; n <= 7; n++) {
            FixedPress press = Bytes.withTape(bytes);
            CHECK.equal("end(" + n + ")", press.end(n), n);
            State.tape(CHECK, "end(" + n + ")", press, Arrays.copyOf(bytes, n));
        }
        for (int n : new int[] {-1, 8, 9, 4000, 4001, LEAST, MOST}) {
            State.changesNothing(CHECK, "end(" + n + ") of 7", ARGUMENT, () -> filledWithResult(7), press -> press.end(n));
        }
    }

    private static void endOfNothing() {
        FixedPress press = new FixedPress();
        CHECK.equal("end(0) of none", press.end(0), 0);
        CHECK.equal("count(0)", press.count(0), 0);
        for (int n : new int[] {-1, 1, 2, LEAST, MOST}) {
            State.changesNothing(CHECK, "end(" + n + ") of none", ARGUMENT, () -> filledWithResult(0), it -> it.end(n));
        }
    }

    private static void endOfAFullTape() {
        for (int n : new int[] {0, 1, 3999, 4000}) {
            FixedPress press = filled(4000);
            CHECK.equal("end(" + n + ") of 4000", press.end(n), n);
            State.tape(CHECK, "end(" + n + ") of 4000", press, made(4000, n));
        }
        for (int n : new int[] {-1, 4001}) {
            State.changesNothing(CHECK, "end(" + n + ") of 4000", ARGUMENT, () -> filledWithResult(4000), it -> it.end(n));
        }
    }

    /** "The TAPE keeps its first n bytes": what it does not keep is gone. */
    private static void endCutsForGood() {
        FixedPress press = Bytes.withTape(Bytes.text("abcdefg"));
        press.end(3);
        CHECK.refuses("end(4) of 3", ARGUMENT, () -> press.end(4));
        CHECK.refuses("patch(3) of 3", ARGUMENT, () -> press.patch(3, 0));
        press.fill(0, 1, 2);
        State.tape(CHECK, "behind what was kept", press, Bytes.of('a', 'b', 'c', 0, 0));
    }

    /** "n bytes, 0 .. 4000". */
    private static void fillNumberOnBothSides() {
        for (int n : new int[] {0, 1, 2, 3999, 4000}) {
            FixedPress press = new FixedPress();
            CHECK.equal("fill of " + n, press.fill(99, 251, n), n);
            State.tape(CHECK, "fill of " + n, press, made(99, 251, n));
        }
        for (int n : new int[] {-1, -2, 4001, 4002, LEAST, MOST}) {
            State.changesNothing(CHECK, "fill of " + n, ARGUMENT, () -> filledWithResult(0), it -> it.fill(1, 2, n));
            State.changesNothing(CHECK, "fill of " + n, ARGUMENT, () -> filledWithResult(50), it -> it.fill(1, 2, n));
        }
    }

    private static void fillOfNothing() {
        for (int many : new int[] {0, 1, 3999, 4000}) {
            FixedPress press = filled(many);
            CHECK.equal("fill of 0 behind " + many, press.fill(LEAST, 1, 0), many);
            State.tape(CHECK, "fill of 0 behind " + many, press, made(many, many));
        }
    }

    /** "bound, 1 .. 256". */
    private static void fillBoundOnBothSides() {
        for (int bound : new int[] {1, 2, 255, 256}) {
            FixedPress press = new FixedPress();
            CHECK.equal("fill by " + bound, press.fill(-7, bound, 100), 100);
            CHECK.bytes("fill by " + bound, Bytes.tape(press), made(-7, bound, 100));
        }
        for (int bound : new int[] {0, -1, -256, 257, 258, LEAST, MOST}) {
            for (int n : new int[] {0, 1, 4000}) {
                State.changesNothing(CHECK, "fill of " + n + " by " + bound, ARGUMENT, () -> filledWithResult(9),
                        press -> press.fill(1, bound, n));
            }
        }
    }

    /** "s ... becomes s times 1103515245 and 12345 (an int), s >>> 16 modulo bound". */
    private static void fillWrapsAround() {
        FixedPress press = new FixedPress();
        // 12345; 1103527590; and for -1 4294967296 - 1103502900 = 3191464396: 0, 16838 and 48697.
        press.fill(0, 256, 1);
        press.fill(1, 256, 1);
        press.fill(-1, 256, 1);
        press.fill(-1, 100, 1);
        // 2147483648 times an odd number stays 2147483648; and 12345: 32768.
        press.fill(LEAST, 256, 1);
        press.fill(LEAST, 3, 1);
        CHECK.bytes("of known numbers", Bytes.tape(press), Bytes.of(0, 16838 - 65 * 256, 48697 - 190 * 256, 97, 0, 2));
        for (int seed : new int[] {LEAST, LEAST + 1, -65536, -2, -1, 0, 1, 2, 65535, 65536, MOST - 1, MOST}) {
            for (int bound : new int[] {1, 7, 255, 256}) {
                FixedPress other = new FixedPress();
                other.fill(seed, bound, 40);
                CHECK.bytes("from " + seed + " by " + bound, Bytes.tape(other), made(seed, bound, 40));
            }
        }
    }

    /** "no room: IndexOutOfBoundsException": there is room for all of 4000. */
    private static void fillOfAsMuchAsThereIsRoom() {
        for (int many : new int[] {0, 1, 2000, 3999, 4000}) {
            FixedPress press = filled(many);
            CHECK.equal("room behind " + many, press.fill(77, 256, 4000 - many), 4000);
            State.tape(CHECK, "room behind " + many, press, Bytes.join(made(many, many), made(77, 256, 4000 - many)));
        }
    }

    /** "no room: IndexOutOfBoundsException". */
    private static void fillOfOneByteTooMany() {
        for (int many : new int[] {1, 2, 2000, 3999, 4000}) {
            for (int n : new int[] {4001 - many, 4000}) {
                State.changesNothing(CHECK, "fill of " + n + " behind " + many, BOUNDS, () -> filledWithResult(many),
                        press -> press.fill(77, 256, n));
            }
        }
    }

    /** "IllegalArgumentException: a number out of range; then as the call says". */
    private static void fillLooksAtNumbersFirst() {
        for (int bound : new int[] {0, 257}) {
            State.changesNothing(CHECK, "no room, and bound " + bound, ARGUMENT, () -> filledWithResult(4000),
                    press -> press.fill(1, bound, 1));
        }
        for (int n : new int[] {-1, 4001, MOST}) {
            State.changesNothing(CHECK, "no room, and n " + n, ARGUMENT, () -> filledWithResult(4000),
                    press -> press.fill(1, 256, n));
        }
    }

    /** "The TAPE is THE RESULT": of none it is empty, whatever it was. */
    private static void backOfNothing() {
        for (int many : new int[] {0, 1, 4000}) {
            FixedPress press = filled(many);
            CHECK.equal("back of none", press.back(), 0);
            CHECK.equal("count(0)", press.count(0), 0);
            CHECK.equal("count(1)", press.count(1), 0);
            CHECK.refuses("patch(0)", ARGUMENT, () -> press.patch(0, 0));
        }
    }

    /** "it has more than 4000 bytes": 4000 themselves come back. */
    private static void backOfTheMost() {
        for (int many : new int[] {1, 3999, 4000}) {
            byte[] content = Bytes.unlike(7, many);
            // As one block by short codes: the tape could not hold so many stored ones.
            FixedPress press = Bytes.withTape(Oracle.deflated(content, 9, Deflater.HUFFMAN_ONLY));
            CHECK.equal("open", press.open(many), many);
            CHECK.equal("back of " + many, press.back(), many);
            State.result(CHECK, "the result stays", press, content);
            State.tape(CHECK, "back of " + many, press, content);
        }
        // Bytes of eight bits, 3 + 7 bits, head and sum: 3992 of them make 4000.
        FixedPress press = Bytes.withTape(Bytes.unlike(0, 3992));
        CHECK.equal("pack", press.pack(), 4000);
        CHECK.equal("back of what was packed", press.back(), 4000);
        CHECK.equal("and opened", press.open(3992), 3992);
    }

    /** "it has more than 4000 bytes: IndexOutOfBoundsException". */
    private static void backOfOneByteTooMany() {
        for (int many : new int[] {4001, 4002, 8191, 8192}) {
            for (int tape : new int[] {0, 33, 4000}) {
                State.changesNothing(CHECK, "back of " + many, BOUNDS, () -> {
                    FixedPress press = withResult(Bytes.times('r', many));
                    press.fill(5, 256, tape);
                    return press;
                }, FixedPress::back);
            }
        }
        State.changesNothing(CHECK, "back of 4001 packed", BOUNDS, () -> {
            FixedPress press = Bytes.withTape(Bytes.unlike(0, 3993));
            CHECK.equal("pack", press.pack(), 4001);
            return press;
        }, FixedPress::back);
    }

    /** "The TAPE is THE RESULT": it has no more of what it was, and needs no room behind it. */
    private static void backTakesThePlaceOfTheTape() {
        for (int many : new int[] {0, 1, 3999, 4000}) {
            FixedPress press = withResult(Bytes.text("the result"));
            press.fill(3, 256, many);
            CHECK.equal("back over " + many, press.back(), 10);
            State.tape(CHECK, "back over " + many, press, Bytes.text("the result"));
        }
    }

    /** "THE RESULT, which stays": also when the tape changes. */
    private static void backLeavesTheResult() {
        byte[] content = Bytes.text("stays");
        FixedPress press = withResult(content);
        press.back();
        press.patch(0, 0);
        press.feed(1, 2, 3, 4, 5);
        press.end(2);
        State.result(CHECK, "the result", press, content);
        CHECK.equal("back again", press.back(), 5);
        State.tape(CHECK, "back again", press, content);
    }

    /** "Byte i of the TAPE, 0 .. its length - 1". */
    private static void patchOnBothSides() {
        for (int i = 0; i < 5; i++) {
            byte[] bytes = Bytes.text("abcde");
            FixedPress press = Bytes.withTape(bytes);
            CHECK.equal("patch(" + i + ")", press.patch(i, '*'), 'a' + i);
            bytes[i] = '*';
            State.tape(CHECK, "patch(" + i + ")", press, bytes);
        }
        for (int i : new int[] {-1, -2, 5, 6, 19, 4000, LEAST, MOST}) {
            State.changesNothing(CHECK, "patch(" + i + ") of 5", ARGUMENT, () -> filledWithResult(5),
                    press -> press.patch(i, 77));
        }
    }

    private static void patchOfNothing() {
        for (int i : new int[] {-1, 0, 1, LEAST, MOST}) {
            State.changesNothing(CHECK, "patch(" + i + ") of none", ARGUMENT, () -> filledWithResult(0),
                    press -> press.patch(i, 77));
        }
    }

    private static void patchOfAFullTape() {
        byte[] bytes = made(4000, 4000);
        FixedPress press = filled(4000);
        CHECK.equal("patch(0)", press.patch(0, 1), bytes[0] & 255);
        CHECK.equal("patch(3999)", press.patch(3999, 2), bytes[3999] & 255);
        bytes[0] = 1;
        bytes[3999] = 2;
        State.tape(CHECK, "both ends", press, bytes);
        for (int i : new int[] {-1, 4000}) {
            State.changesNothing(CHECK, "patch(" + i + ") of 4000", ARGUMENT, () -> filledWithResult(4000),
                    it -> it.patch(i, 77));
        }
    }

    /** "is the lowest one of v": no v is out of range. */
    private static void patchTakesTheLowestByte() {
        int[] values = {0, 1, 127, 128, 255, 256, 257, 511, 0x12345678, -1, -128, -129, -256, LEAST, MOST};
        int[] lowest = {0, 1, 127, 128, 255, 0, 1, 255, 0x78, 255, 128, 127, 0, 0, 255};
        FixedPress press = Bytes.withTape(Bytes.of(1, 2, 3));
        for (int i = 0; i < values.length; i++) {
            press.patch(1, values[i]);
            CHECK.equal("the lowest of " + values[i], press.patch(1, 9), lowest[i]);
        }
        State.tape(CHECK, "its neighbours stay", press, Bytes.of(1, 9, 3));
    }

    /** "what it was (0 .. 255)". */
    private static void patchAnswersNoNegative() {
        FixedPress press = new FixedPress();
        press.feed(0x00017F80, 0x81FEFF00, 0, 0, 0);
        int[] due = {0, 1, 127, 128, 129, 254, 255, 0};
        for (int i = 0; i < due.length; i++) {
            CHECK.equal("what byte " + i + " was", press.patch(i, 0), due[i]);
        }
    }

    /** A tape of so many bytes; the result is empty. */
    private static FixedPress filled(int many) {
        FixedPress press = new FixedPress();
        press.fill(many, 256, many);
        return press;
    }

    /** A tape of so many bytes, and a result of some. */
    private static FixedPress filledWithResult(int many) {
        FixedPress press = withResult(Bytes.text("a result of some bytes"));
        press.fill(many, 256, many);
        return press;
    }

    private static FixedPress withResult(byte[] content) {
        FixedPress press = Bytes.withTape(Oracle.deflated(content, 9, Deflater.DEFAULT_STRATEGY));
        CHECK.equal("open", press.open(8192), content.length);
        return press;
    }

    private static byte[] made(int seed, int many) {
        return made(seed, 256, many);
    }

    /** By numbers that are long enough not to wrap around by themselves. */
    private static byte[] made(int seed, int bound, int many) {
        byte[] bytes = new byte[many];
        long s = seed & 0xFFFFFFFFL;
        for (int i = 0; i < many; i++) {
            s = (s * 1103515245L + 12345L) % 4294967296L;
            bytes[i] = (byte) (s / 65536 % bound);
        }
        return bytes;
    }
}
