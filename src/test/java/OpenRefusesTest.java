import java.util.Arrays;
import java.util.function.Consumer;

/** Promise 6: what open refuses, and what it leaves then. */
public final class OpenRefusesTest {
    private static final Check CHECK = new Check();
    private static final byte[] NONE = new byte[0];

    public static void main(String[] args) {
        numbers();
        lengths();
        sums();
        stored();
        fixed();
        toldHeads();
        toldSets();
        toldCodes();
        cutAnywhere();
        CHECK.end();
    }

    private static void numbers() {
        for (int most : new int[] {-1, 8193, Integer.MIN_VALUE, Integer.MAX_VALUE}) {
            FixedPress press = withOldResult();
            Bytes.load(press, Bits.withHead().stored(1, NONE).sealed(NONE));
            CHECK.refuses("open(" + most + ")", IllegalArgumentException.class, () -> press.open(most));
            leavesOldResult("open(" + most + ")", press);
            CHECK.refuses("open(" + most + ") of none", IllegalArgumentException.class, () -> press.open(most));
        }
    }

    private static void lengths() {
        refuses("an empty tape", NONE, 8192);
        byte[] content = Bytes.text("abcdef");
        for (byte[] stream : new byte[][] {Oracle.packed(content), Bits.withHead().stored(1, content).sealed(content),
            Oracle.deflated(Bytes.join(content, content, content), 9, 0)}) {
            refuses("5 of more", stream, 5);
            refuses("0 of more", stream, 0);
        }
        byte[] large = Bytes.times('a', 8193);
        refuses("8193 bytes", Oracle.deflated(large, 9, 0), 8192);
        refuses("300000 bytes", Oracle.deflated(new byte[300000], 9, 0), 8192);
    }

    private static void sums() {
        byte[] stream = Oracle.packed(Bytes.text("sum"));
        for (int i = stream.length - 4; i < stream.length; i++) {
            byte[] wrong = stream.clone();
            wrong[i] ^= 1;
            refuses("another sum", wrong, 8192);
        }
        refuses("a byte behind", Bytes.join(stream, Bytes.of(0)), 8192);
        refuses("the sum twice", Bytes.join(stream, Arrays.copyOfRange(stream, stream.length - 4, stream.length)), 8192);
        refuses("a byte between", Bits.withHead().stored(1, Bytes.text("s")).raw(0).sealed(Bytes.text("s")), 8192);
        refuses("a block behind the last", Bits.withHead().stored(1, NONE).stored(1, NONE).sealed(NONE), 8192);
        refuses("a sum with the lowest byte first", Bytes.join(Bytes.of(0x78, 0x9C, 3, 0), Bytes.of(1, 0, 0, 0)), 8192);
    }

    private static void stored() {
        byte[] ab = Bytes.text("ab");
        refuses("no last block", Bits.withHead().stored(0, ab).sealed(ab), 8192);
        refuses("another length", Bits.withHead().block(1, 0).rest(0).raw(2, 0, 253, 254).raw(ab).sealed(ab), 8192);
        refuses("the same length", Bits.withHead().block(1, 0).rest(0).raw(2, 0, 2, 0).raw(ab).sealed(ab), 8192);
        refuses("more than there are", Bits.withHead().block(1, 0).rest(0).raw(3, 0, 252, 255).raw(ab).sealed(ab), 8192);
        refuses("fewer than there are", Bits.withHead().block(1, 0).rest(0).raw(1, 0, 254, 255).raw(ab).sealed(ab), 8192);
        refuses("no new byte", Bits.withHead().block(1, 0).raw(2, 0, 253, 255).raw(ab).sealed(ab), 8192);
        refuses("kind 3", Bits.withHead().block(1, 3).rest(0).sealed(NONE), 8192);
        refuses("kind 3 with codes", Bits.withHead().block(1, 3).fixed(256).sealed(NONE), 8192);
    }

    private static void fixed() {
        byte[] a = Bytes.text("a");
        for (int symbol : new int[] {286, 287}) {
            refuses("literal " + symbol, Bits.withHead().block(1, 1).fixed('a').fixed(symbol).code(0, 5).fixed(256)
                    .sealed(a), 8192);
            refuses("literal " + symbol, Bits.withHead().block(1, 1).fixed('a').fixed(symbol).fixed(256).sealed(a), 8192);
        }
        for (int distance : new int[] {30, 31}) {
            refuses("distance " + distance, Bits.withHead().block(1, 1).fixed('a').fixedCopy(257, 0, 0, distance, 0, 0)
                    .fixed(256).sealed(Bytes.text("aaaa")), 8192);
        }
        refuses("a copy of nothing", Bits.withHead().block(1, 1).fixedCopy(257, 0, 0, 0, 0, 0).fixed(256)
                .sealed(Bytes.of(0, 0, 0)), 8192);
        refuses("a copy from before", Bits.withHead().block(1, 1).fixed('a').fixedCopy(257, 0, 0, 1, 0, 0).fixed(256)
                .sealed(Bytes.of('a', 0, 'a', 0)), 8192);
        refuses("a copy from far before", Bits.withHead().block(1, 1).fixed('a').fixedCopy(257, 0, 0, 29, 8191, 13)
                .fixed(256).sealed(Bytes.of('a', 0, 0, 0)), 8192);
        refuses("no end", Bits.withHead().block(1, 1).fixed('a').sealed(a), 8192);
    }

    /** A block whose code 256 alone has one bit, with these literals and distances told. */
    private static byte[] emptyBlock(int literals, int distances) {
        int[] lengths = new int[literals];
        lengths[256] = 1;
        return Bits.withHead().block(1, 2).told(lengths, new int[distances]).symbol(lengths, 256).sealed(NONE);
    }

    private static void toldHeads() {
        for (int literals : new int[] {257, 286}) {
            for (int distances : new int[] {1, 30}) {
                FixedPress press = Bytes.withTape(emptyBlock(literals, distances));
                CHECK.equal(literals + " and " + distances, press.open(0), 0);
            }
        }
        refuses("287 literals", emptyBlock(287, 1), 8192);
        refuses("288 literals", emptyBlock(288, 1), 8192);
        refuses("31 distances", emptyBlock(257, 31), 8192);
        refuses("32 distances", emptyBlock(257, 32), 8192);

        int[] codes = Bits.ALL_LENGTHS;
        int[] one = new int[257];
        one[256] = 1;
        refuses("a repeat of nothing", Bits.withHead().block(1, 2).toldHead(257, 1, codes).symbol(codes, 16).number(0, 2)
                .symbol(codes, 18).number(127, 7).symbol(codes, 18).number(104, 7).symbol(codes, 1).symbol(codes, 0)
                .symbol(one, 256).sealed(NONE), 8192);
        Consumer<Bits> zeros = bits -> bits.symbol(codes, 18).number(127, 7).symbol(codes, 18).number(107, 7);
        refusesRepeat("zeros beyond all", zeros, bits -> bits.symbol(codes, 1).symbol(codes, 17).number(0, 3), 2);
        refusesRepeat("more zeros beyond all", zeros, bits -> bits.symbol(codes, 1).symbol(codes, 18).number(0, 7), 10);
        refusesRepeat("a repeat beyond all", zeros, bits -> bits.symbol(codes, 1).symbol(codes, 16).number(0, 2), 2);
        refusesRepeat("a repeat far beyond all", zeros, bits -> bits.symbol(codes, 1).symbol(codes, 16).number(3, 2), 2);
    }

    private static void refusesRepeat(String what, Consumer<Bits> first, Consumer<Bits> then, int distances) {
        int[] one = new int[257];
        one[256] = 1;
        Bits bits = Bits.withHead().block(1, 2).toldHead(257, distances, Bits.ALL_LENGTHS);
        first.accept(bits);
        then.accept(bits);
        refuses(what, bits.symbol(one, 256).sealed(NONE), 8192);
    }

    private static int[] set(int many, int... symbolsAndLengths) {
        int[] lengths = new int[many];
        for (int i = 0; i < symbolsAndLengths.length; i += 2) {
            lengths[symbolsAndLengths[i]] = symbolsAndLengths[i + 1];
        }
        return lengths;
    }

    private static void toldSets() {
        refusesSets("two literals, not whole", set(257, 0, 2, 256, 2), set(1));
        refusesSets("two literals, nearly whole", set(257, 0, 1, 256, 2), set(1));
        refusesSets("three literals, too many", set(257, 0, 1, 1, 1, 256, 1), set(1));
        refusesSets("a literal too many", set(257, 0, 1, 1, 2, 2, 2, 256, 15), set(1));
        refusesSets("256 has no code", set(257, 0, 1, 1, 1), set(1));
        refusesSets("no literals at all", set(257), set(1));
        refusesSets("one literal, not 256", set(257, 0, 1), set(1));
        refusesSets("two distances, not whole", set(257, 0, 1, 256, 1), set(2, 0, 1, 1, 2));
        refusesSets("two long distances", set(257, 0, 1, 256, 1), set(2, 0, 15, 1, 15));
        refusesSets("three distances, too many", set(257, 0, 1, 256, 1), set(3, 0, 1, 1, 1, 2, 1));

        int[] one = set(257, 256, 1);
        int[] notWhole = {2, 2, 0, 0, 0, 0, 0, 0, 0, 0, 0, 0, 0, 0, 0, 0, 0, 0, 2};
        int[] tooMany = {1, 1, 0, 0, 0, 0, 0, 0, 0, 0, 0, 0, 0, 0, 0, 0, 0, 0, 1};
        int[] justWhole = {2, 2, 0, 0, 0, 0, 0, 0, 0, 0, 0, 0, 0, 0, 0, 0, 0, 0, 1};
        CHECK.equal("a whole set of lengths", Bytes.withTape(byLengthCodes(justWhole, one)).open(0), 0);
        refuses("a set of lengths that is not whole", byLengthCodes(notWhole, one), 8192);
        refuses("a set of lengths with too many", byLengthCodes(tooMany, one), 8192);
        refuses("a set of lengths with none", Bits.withHead().block(1, 2).toldHead(257, 1, new int[19])
                .raw(new byte[100]).sealed(NONE), 8192);
        for (int symbol = 0; symbol < 19; symbol++) {
            refuses("one length alone, " + symbol, Bits.withHead().block(1, 2).toldHead(257, 1, set(19, symbol, 1))
                    .raw(new byte[100]).sealed(NONE), 8192);
        }
    }

    private static byte[] byLengthCodes(int[] codes, int[] one) {
        return Bits.withHead().block(1, 2).toldHead(257, 1, codes).symbol(codes, 18).number(127, 7)
                .symbol(codes, 18).number(107, 7).symbol(codes, 1).symbol(codes, 0).symbol(one, 256).sealed(NONE);
    }

    private static void refusesSets(String what, int[] literals, int[] distances) {
        Bits bits = Bits.withHead().block(1, 2).told(literals, distances);
        refuses(what, bits.code(0, literals[256] == 0 ? 1 : literals[256]).sealed(NONE), 8192);
        if (literals[256] > 0) {
            refuses(what, Bits.withHead().block(1, 2).told(literals, distances).symbol(literals, 256).sealed(NONE), 8192);
        }
    }

    private static void toldCodes() {
        int[] literals = set(258, 'a', 2, 'b', 2, 256, 2, 257, 2);
        refuses("no distance for a copy", Bits.withHead().block(1, 2).told(literals, set(1)).symbol(literals, 'a')
                .symbol(literals, 257).code(0, 1).symbol(literals, 256).sealed(Bytes.text("aaaa")), 8192);
        refuses("not the one distance", Bits.withHead().block(1, 2).told(literals, set(1, 0, 1)).symbol(literals, 'a')
                .symbol(literals, 257).code(1, 1).symbol(literals, 256).sealed(Bytes.text("aaaa")), 8192);
        refuses("not the one literal", Bits.withHead().block(1, 2).told(set(257, 256, 1), set(1)).code(1, 1).code(0, 1)
                .raw(0, 0, 0).sealed(NONE), 8192);
        refuses("a copy from before", Bits.withHead().block(1, 2).told(literals, set(2, 0, 1, 1, 1))
                .symbol(literals, 'a').symbol(literals, 257).code(1, 1).symbol(literals, 256)
                .sealed(Bytes.text("aaaa")), 8192);
    }

    private static void cutAnywhere() {
        byte[] content = Bytes.text("to be cut, to be cut, to be cut anywhere, and everywhere it is to be refused");
        for (byte[] stream : new byte[][] {Oracle.packed(content), Oracle.deflated(content, 0, 0),
            Oracle.deflated(Bytes.join(content, Bytes.text("eeeeetttaaooiinn srh"), content), 9, 2)}) {
            CHECK.isTrue("whole", Bytes.withTape(stream).open(8192) > 0);
            for (int many = 0; many < stream.length; many++) {
                refuses("cut to " + many, Arrays.copyOf(stream, many), 8192);
            }
        }
    }

    private static FixedPress withOldResult() {
        FixedPress press = Bytes.withTape(Bytes.text("old"));
        press.pack();
        return press;
    }

    private static void leavesOldResult(String what, FixedPress press) {
        CHECK.equal(what + ": the tape is empty", press.count(0), 0);
        CHECK.bytes(what + ": the result stays", Bytes.result(press), Oracle.packed(Bytes.text("old")));
    }

    private static void refuses(String what, byte[] stream, int most) {
        FixedPress press = withOldResult();
        Bytes.load(press, stream);
        CHECK.refuses(what, UnsupportedOperationException.class, () -> press.open(most));
        leavesOldResult(what, press);
    }
}
