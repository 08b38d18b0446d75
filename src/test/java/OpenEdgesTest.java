import java.util.Arrays;

/** The edges of promise 6's own sentence; those of A STREAM have tests of their own. */
public final class OpenEdgesTest {
    private static final Class<IllegalArgumentException> ARGUMENT = IllegalArgumentException.class;
    private static final Class<UnsupportedOperationException> UNSUPPORTED = UnsupportedOperationException.class;
    private static final byte[] NONE = Streams.NONE;
    private static final Check CHECK = new Check();

    public static void main(String[] args) {
        mostOnBothSides();
        mostIsLookedAtFirst();
        mostOfNothing();
        mostOfEachKind();
        resultOfTheMost();
        resultOfOneByteTooMany();
        emptyTape();
        tapeOfTooFewBytes();
        fullTape();
        cutTape();
        tapeIsEmptyThen();
        tapeIsEmptyIfThisThrows();
        resultIsReplaced();
        resultStaysIfThisThrows();
        opensAfterRefused();
        noCopiesOfOlderResults();
        CHECK.end();
    }

    /** "at most most bytes, 0 .. 8192". */
    private static void mostOnBothSides() {
        byte[] stream = Oracle.packed(Bytes.text("most"));
        for (int most : new int[] {4, 5, 8191, 8192}) {
            CHECK.equal("open(" + most + ") of 4", Streams.withTape(stream).open(most), 4);
        }
        for (int most : new int[] {0, 1, 3}) {
            Streams.refusesBeyond(CHECK, "open(" + most + ") of 4", stream, most);
        }
        for (int most : new int[] {-1, -4, 8193, 8196, Integer.MIN_VALUE, Integer.MAX_VALUE}) {
            CHECK.refuses("open(" + most + ")", ARGUMENT, () -> Streams.withTape(stream).open(most));
        }
    }

    /** "IllegalArgumentException: a number out of range; then as the call says". */
    private static void mostIsLookedAtFirst() {
        for (byte[] tape : new byte[][] {NONE, Bytes.text("no stream"), Bytes.times(7, 4000)}) {
            CHECK.refuses("open(8192) of no stream", UNSUPPORTED, () -> Streams.withTape(tape).open(8192));
            for (int most : new int[] {-1, 8193}) {
                CHECK.refuses("open(" + most + ") of no stream", ARGUMENT, () -> Streams.withTape(tape).open(most));
            }
        }
    }

    private static void mostOfNothing() {
        byte[] stream = Oracle.packed(NONE);
        for (int most : new int[] {0, 1, 8192}) {
            FixedPress press = Streams.withTape(stream);
            CHECK.equal("open(" + most + ") of none", press.open(most), 0);
            State.result(CHECK, "none", press, NONE);
        }
        Streams.opens(CHECK, "none stored", Bits.withHead().stored(1, NONE).sealed(NONE), NONE);
    }

    /** "at most most bytes": by a byte, a copy or a stored one, just as many are right and one more is not. */
    private static void mostOfEachKind() {
        byte[] content = Bytes.text("abcabcabc");
        Streams.opens(CHECK, "bytes", block().literals(content).fixed(256).sealed(content), content);
        Streams.opens(CHECK, "a copy", block().literals(Bytes.text("abc")).copy(6, 3).fixed(256).sealed(content), content);
        Streams.opens(CHECK, "stored", Bits.withHead().stored(1, content).sealed(content), content);
        byte[] copied = block().literals(Bytes.text("abc")).copy(6, 3).fixed(256).sealed(content);
        for (int most = 0; most < 9; most++) {
            Streams.refusesBeyond(CHECK, most + " of a copy", copied, most);
        }
    }

    /** "THE RESULT at most 8192": one byte, 31 copies of 258, and 193 are left. */
    private static void resultOfTheMost() {
        byte[] content = Bytes.times('r', 8192);
        Streams.opens(CHECK, "8192 bytes", copies().copy(193, 1).fixed(256).sealed(content), content);
        byte[] less = Bytes.times('r', 8191);
        Streams.opens(CHECK, "8191 bytes", copies().copy(192, 1).fixed(256).sealed(less), less);
    }

    private static void resultOfOneByteTooMany() {
        byte[] content = Bytes.times('r', 8193);
        Streams.refuses(CHECK, "a copy too long", copies().copy(194, 1).fixed(256).sealed(content));
        Streams.refuses(CHECK, "a byte too many", copies().copy(193, 1).fixed('r').fixed(256).sealed(content));
        Streams.refuses(CHECK, "a stored one too many", copiesIn(0).copy(193, 1).fixed(256).stored(1, Bytes.text("r"))
                .sealed(content));
        byte[] more = Bytes.times('r', 8192 + 258);
        Streams.refuses(CHECK, "a copy too many", copies().copy(193, 1).copy(258, 1).fixed(256).sealed(more));
    }

    private static void emptyTape() {
        for (int most : new int[] {0, 1, 8192}) {
            Streams.refusesBeyond(CHECK, "an empty tape", NONE, most);
            CHECK.refuses("of a new object", UNSUPPORTED, () -> new FixedPress().open(most));
        }
    }

    /** The shortest stream has 8 bytes: the head, 10 bits, the sum. */
    private static void tapeOfTooFewBytes() {
        byte[] shortest = Bytes.of(0x78, 0x9C, 3, 0, 0, 0, 0, 1);
        Streams.opens(CHECK, "8 bytes", shortest, NONE);
        for (int many = 0; many < 8; many++) {
            Streams.refuses(CHECK, "the first " + many, Arrays.copyOf(shortest, many));
            Streams.refuses(CHECK, "the last " + many, Arrays.copyOfRange(shortest, 8 - many, 8));
            byte[] missing = Bytes.join(Arrays.copyOf(shortest, many), Arrays.copyOfRange(shortest, many + 1, 8));
            Streams.refuses(CHECK, "without byte " + many, missing);
        }
    }

    private static void fullTape() {
        byte[] stored = Bytes.unlike(0, 3989);
        byte[] stream = Bits.withHead().stored(1, stored).sealed(stored);
        CHECK.equal("a stream of", stream.length, 4000);
        Streams.opens(CHECK, "a full tape, stored", stream, stored);
        byte[] content = Bytes.unlike(0, 3992);
        byte[] packed = Oracle.packed(content);
        CHECK.equal("a stream of", packed.length, 4000);
        Streams.opens(CHECK, "a full tape, by codes", packed, content);
        Streams.refuses(CHECK, "a full tape of zeros", new byte[4000]);
    }

    /** What end() has cut is no more part of the stream. */
    private static void cutTape() {
        byte[] stored = Bytes.unlike(0, 3989);
        byte[] withoutEnd = Arrays.copyOf(block().literals(Bytes.unlike(0, 4000)).toBytes(), 4000);
        for (byte[] stream : new byte[][] {Oracle.packed(Bytes.text("cut")),
            Bits.withHead().stored(1, stored).sealed(stored), withoutEnd}) {
            int most = stream.length - 1;
            for (int many : new int[] {0, 1, 2, 3, 4, 5, 6, 7, 8, most - 4, most - 3, most - 2, most - 1, most}) {
                FixedPress press = Streams.withTape(stream);
                press.end(many);
                CHECK.refuses("cut to " + many, UNSUPPORTED, () -> press.open(8192));
                CHECK.equal("the tape is empty", press.count(0), 0);
            }
        }
    }

    /** "The TAPE, which is empty then". */
    private static void tapeIsEmptyThen() {
        FixedPress press = Streams.withTape(Oracle.packed(Bytes.text("then")));
        press.open(4);
        CHECK.equal("count(0)", press.count(0), 0);
        CHECK.refuses("patch(0)", ARGUMENT, () -> press.patch(0, 0));
        CHECK.refuses("end(1)", ARGUMENT, () -> press.end(1));
        CHECK.refuses("open again", UNSUPPORTED, () -> press.open(4));
        CHECK.equal("room for all", press.fill(1, 2, 4000), 4000);
    }

    /** "(also if this throws)": whatever it throws, and nothing else changes. */
    private static void tapeIsEmptyIfThisThrows() {
        byte[] stream = Oracle.packed(Bytes.text("throws"));
        for (byte[] tape : new byte[][] {NONE, Bytes.of(0x78), Bytes.text("no stream"), Bytes.times(9, 4000), stream}) {
            State.emptiesTape(CHECK, "open(5) of " + tape.length, UNSUPPORTED, () -> Streams.withTape(tape),
                    press -> press.open(5));
            for (int most : new int[] {-1, 8193, Integer.MIN_VALUE, Integer.MAX_VALUE}) {
                State.emptiesTape(CHECK, "open(" + most + ") of " + tape.length, ARGUMENT,
                        () -> Streams.withTape(tape), press -> press.open(most));
            }
        }
    }

    /** "which are THE RESULT": nothing stays of the one before, longer or shorter. */
    private static void resultIsReplaced() {
        FixedPress press = new FixedPress();
        for (byte[] content : new byte[][] {Bytes.times('l', 8192), Bytes.text("s"), NONE, Bytes.unlike(9, 300), NONE}) {
            Bytes.load(press, Oracle.deflated(content, 9, 0));
            CHECK.equal("open", press.open(content.length), content.length);
            State.result(CHECK, "opened anew", press, content);
        }
    }

    /** "A call that throws changes nothing, but as said": what was opened before the fault is not seen. */
    private static void resultStaysIfThisThrows() {
        byte[] older = Bytes.times('o', 5000);
        FixedPress press = new FixedPress();
        Bytes.load(press, Oracle.deflated(older, 9, 0));
        press.open(8192);
        byte[] wrongSum = copies().fixed(256).sealed(Bytes.text("another"));
        for (int i = 0; i < 3; i++) {
            Bytes.load(press, wrongSum);
            CHECK.refuses("a wrong sum", UNSUPPORTED, () -> press.open(8192));
            State.result(CHECK, "a wrong sum", press, older);
            CHECK.refuses("an empty tape", UNSUPPORTED, () -> press.open(8192));
            State.result(CHECK, "an empty tape", press, older);
            CHECK.refuses("a number out of range", ARGUMENT, () -> press.open(8193));
            State.result(CHECK, "a number out of range", press, older);
        }
    }

    /** Nothing of a stream that was refused, wherever it was, is in the way of the next one. */
    private static void opensAfterRefused() {
        byte[] text = Bytes.text("to be opened, to be opened after the one that is refused, eeeeeaaaatttnnnoooiiisssrrr");
        byte[][] right = {Oracle.packed(text), Oracle.deflated(text, 9, 2), Bits.withHead().stored(1, text).sealed(text)};
        for (byte[] wrong : right) {
            for (int many = 0; many < wrong.length; many++) {
                for (byte[] stream : right) {
                    opensAfter(new FixedPress(), Arrays.copyOf(wrong, many), stream, text);
                }
            }
        }
    }

    private static void opensAfter(FixedPress press, byte[] wrong, byte[] stream, byte[] content) {
        Bytes.load(press, wrong);
        CHECK.refuses("cut to " + wrong.length, UNSUPPORTED, () -> press.open(8192));
        Bytes.load(press, stream);
        CHECK.equal("the next one", press.open(content.length), content.length);
        CHECK.equal("its sum", press.sum(), State.sum(content));
    }

    /** "no copies from before the beginning": older results are not the beginning. */
    private static void noCopiesOfOlderResults() {
        FixedPress press = new FixedPress();
        for (int i = 0; i < 3; i++) {
            Bytes.load(press, Oracle.packed(Bytes.text("xyz")));
            CHECK.equal("open", press.open(3), 3);
            Bytes.load(press, block().copy(3, 3).fixed(256).sealed(Bytes.text("xyz")));
            CHECK.refuses("a copy of an older result", UNSUPPORTED, () -> press.open(8192));
        }
    }

    private static Bits block() {
        return Bits.withHead().block(1, 1);
    }

    /** 7999 bytes: one, and 31 copies of 258. */
    private static Bits copies() {
        return copiesIn(1);
    }

    private static Bits copiesIn(int last) {
        Bits bits = Bits.withHead().block(last, 1).fixed('r');
        for (int i = 0; i < 31; i++) {
            bits.copy(258, 1);
        }
        return bits;
    }
}
