import java.util.Arrays;

/** The edges of blocks by codes that they tell, clause by clause: what stands in quotes is the document's. */
public final class ToldEdgesTest {
    private static final byte[] NONE = Streams.NONE;
    private static final int[] CODES = Bits.ALL_LENGTHS;
    private static final Check CHECK = new Check();

    public static void main(String[] args) {
        atMost286Literals();
        atMost30Distances();
        literalsAreWhole();
        literalsHaveOneAlone();
        literalsAreNotWhole();
        literalsAreTooMany();
        distancesAreWhole();
        distancesHaveOneAlone();
        distancesHaveNone();
        distancesAreNotWhole();
        distancesAreTooMany();
        lengthsAreWhole();
        lengthsHaveOneAloneOrNone();
        lengthsAreNotWhole();
        lengthsAreTooMany();
        fewestLengthsTold();
        endHasACode();
        repeatNeedsALengthBefore();
        repeatOfZeroNeedsNone();
        zerosOfTheLeastAndTheMost();
        repeatsOfTheLeastAndTheMost();
        repeatFromSetToSet();
        repeatsUpToAll();
        repeatUpToTheMost();
        repeatsBeyondAll();
        codesThatThereAreNot();
        distancesOutOfReach();
        nextBlockTellsItsOwn();
        noBytesThatThereAreNot();
        CHECK.end();
    }

    private static int[] set(int many, int... symbolsAndLengths) {
        int[] lengths = new int[many];
        for (int i = 0; i < symbolsAndLengths.length; i += 2) {
            lengths[symbolsAndLengths[i]] = symbolsAndLengths[i + 1];
        }
        return lengths;
    }

    private static Bits block() {
        return Bits.withHead().block(1, 2);
    }

    /** A block of nothing but its end. */
    private static byte[] empty(int[] literals, int[] distances) {
        return block().told(literals, distances).symbol(literals, 256).sealed(NONE);
    }

    /** "at most 286 ...". */
    private static void atMost286Literals() {
        for (int many : new int[] {257, 258, 285, 286}) {
            Streams.opens(CHECK, many + " literals", empty(set(many, 0, 1, 256, 1), set(1)), NONE);
        }
        int[] all = set(286, 'a', 1, 256, 2, 285, 2);
        byte[] content = Bytes.times('a', 259);
        Streams.opens(CHECK, "literal 285", block().told(all, set(1, 0, 1)).symbol(all, 'a').symbol(all, 285).code(0, 1)
                .symbol(all, 256).sealed(content), content);
        for (int many : new int[] {287, 288}) {
            Streams.refuses(CHECK, many + " literals", empty(set(many, 0, 1, 256, 1), set(1)));
            Streams.refuses(CHECK, many + " literals, the last with a code",
                    empty(set(many, many - 1, 1, 256, 1), set(1)));
        }
    }

    /** "... and 30". */
    private static void atMost30Distances() {
        int[] literals = set(257, 0, 1, 256, 1);
        for (int many : new int[] {1, 2, 29, 30}) {
            Streams.opens(CHECK, many + " distances", empty(literals, set(many)), NONE);
            Streams.opens(CHECK, many + " distances, the last with a code", empty(literals, set(many, many - 1, 1)), NONE);
        }
        for (int many : new int[] {31, 32}) {
            Streams.refuses(CHECK, many + " distances", empty(literals, set(many)));
            Streams.refuses(CHECK, many + " distances, the last with a code", empty(literals, set(many, many - 1, 1)));
        }
        Streams.opens(CHECK, "286 and 30", empty(set(286, 0, 1, 256, 1), set(30, 0, 1, 29, 1)), NONE);
        Streams.refuses(CHECK, "287 and 31", empty(set(287, 0, 1, 256, 1), set(31, 0, 1, 29, 1)));
    }

    /** Codes of 1, 2, 3 .. 15 bits for the symbols from 0 on: one of 15 bits is left, to be whole. */
    private static int[] stairs(int many) {
        int[] lengths = new int[many];
        for (int i = 0; i < 15; i++) {
            lengths[i] = i + 1;
        }
        return lengths;
    }

    private static int[] with(int[] lengths, int symbol, int length) {
        int[] more = lengths.clone();
        more[symbol] = length;
        return more;
    }

    /** "both sets ... are whole". */
    private static void literalsAreWhole() {
        int[] two = set(257, 'x', 1, 256, 1);
        Streams.opens(CHECK, "two of one bit", block().told(two, set(1)).symbol(two, 'x').symbol(two, 256)
                .sealed(Bytes.text("x")), Bytes.text("x"));
        int[] whole = with(stairs(257), 256, 15);
        byte[] content = Bytes.of(0, 1, 2, 3, 4, 5, 6, 7, 8, 9, 10, 11, 12, 13, 14);
        Bits bits = block().told(whole, set(1));
        for (byte value : content) {
            bits.symbol(whole, value);
        }
        Streams.opens(CHECK, "of 1 to 15 bits", bits.symbol(whole, 256).sealed(content), content);
        int[] flat = new int[257];
        Arrays.fill(flat, 8);
        flat[7] = 0;
        Streams.opens(CHECK, "256 of eight bits", empty(flat, set(1)), NONE);
    }

    /** "or have one code alone": it is 256's then. */
    private static void literalsHaveOneAlone() {
        for (int length : new int[] {1, 2, 14, 15}) {
            Streams.opens(CHECK, "256 alone, of " + length, empty(set(257, 256, length), set(1)), NONE);
            Streams.opens(CHECK, "256 alone of 286", empty(set(286, 256, length), set(30)), NONE);
        }
    }

    private static void literalsAreNotWhole() {
        Streams.refuses(CHECK, "two of two bits", empty(set(257, 0, 2, 256, 2), set(1)));
        Streams.refuses(CHECK, "of one and two", empty(set(257, 0, 1, 256, 2), set(1)));
        Streams.refuses(CHECK, "two of 15", empty(set(257, 0, 15, 256, 15), set(1)));
        Streams.refuses(CHECK, "all but one of 15", empty(with(with(stairs(257), 14, 0), 256, 15), set(1)));
        int[] flat = new int[257];
        Arrays.fill(flat, 8);
        flat[7] = 0;
        flat[8] = 0;
        Streams.refuses(CHECK, "255 of eight bits", empty(flat, set(1)));
        Arrays.fill(flat, 9);
        Streams.refuses(CHECK, "257 of nine bits", empty(flat, set(1)));
    }

    private static void literalsAreTooMany() {
        Streams.refuses(CHECK, "three of one bit", empty(set(257, 0, 1, 1, 1, 256, 1), set(1)));
        Streams.refuses(CHECK, "one of 15 more", empty(with(with(stairs(257), 100, 15), 256, 15), set(1)));
        int[] flat = new int[257];
        Arrays.fill(flat, 8);
        Streams.refuses(CHECK, "257 of eight bits", empty(flat, set(1)));
        Arrays.fill(flat, 1);
        Streams.refuses(CHECK, "257 of one bit", empty(flat, set(1)));
    }

    private static final int[] WITH_COPIES = set(258, 'a', 2, 'b', 2, 256, 2, 257, 2);

    /** Two bytes and a copy of three by this distance code, 0 or 1. */
    private static byte[] copy(int[] distances, int symbol) {
        byte[] content = symbol == 0 ? Bytes.text("abbbb") : Bytes.text("ababa");
        return block().told(WITH_COPIES, distances).symbol(WITH_COPIES, 'a').symbol(WITH_COPIES, 'b')
                .symbol(WITH_COPIES, 257).symbol(distances, symbol).symbol(WITH_COPIES, 256).sealed(content);
    }

    private static void distancesAreWhole() {
        Streams.opens(CHECK, "two of one bit", copy(set(2, 0, 1, 1, 1), 0), Bytes.text("abbbb"));
        Streams.opens(CHECK, "two of one bit", copy(set(2, 0, 1, 1, 1), 1), Bytes.text("ababa"));
        int[] whole = with(stairs(30), 29, 15);
        Streams.opens(CHECK, "of 1 to 15 bits", copy(whole, 1), Bytes.text("ababa"));
        int[] longest = whole.clone();
        longest[1] = 15;
        longest[14] = 2;
        Streams.opens(CHECK, "of 15 bits", copy(longest, 1), Bytes.text("ababa"));
    }

    private static void distancesHaveOneAlone() {
        for (int length : new int[] {1, 2, 14, 15}) {
            Streams.opens(CHECK, "0 alone, of " + length, copy(set(1, 0, length), 0), Bytes.text("abbbb"));
            Streams.opens(CHECK, "1 alone, of " + length, copy(set(30, 1, length), 1), Bytes.text("ababa"));
            Streams.opens(CHECK, "29 alone", empty(set(257, 0, 1, 256, 1), set(30, 29, length)), NONE);
        }
    }

    /** "or none": then there are no copies. */
    private static void distancesHaveNone() {
        for (int many : new int[] {1, 30}) {
            Streams.opens(CHECK, "no copy", block().told(WITH_COPIES, set(many)).symbol(WITH_COPIES, 'a')
                    .symbol(WITH_COPIES, 256).sealed(Bytes.text("a")), Bytes.text("a"));
            for (int bit = 0; bit <= 1; bit++) {
                Streams.refuses(CHECK, "a copy", block().told(WITH_COPIES, set(many)).symbol(WITH_COPIES, 'a')
                        .symbol(WITH_COPIES, 257).code(bit, 1).symbol(WITH_COPIES, 256).sealed(Bytes.text("aaaa")));
                Streams.refuses(CHECK, "a copy", block().told(WITH_COPIES, set(many)).symbol(WITH_COPIES, 'a')
                        .symbol(WITH_COPIES, 257).raw(new byte[9]).sealed(Bytes.text("aaaa")));
            }
        }
    }

    private static void distancesAreNotWhole() {
        int[] literals = set(257, 0, 1, 256, 1);
        for (int[] distances : new int[][] {set(2, 0, 2, 1, 2), set(2, 0, 1, 1, 2), set(30, 0, 15, 29, 15),
            set(3, 0, 2, 1, 2, 2, 2), stairs(30)}) {
            CHECK.isTrue("not whole", kraft(distances) < 1 << 15);
            Streams.refuses(CHECK, "not whole", empty(literals, distances));
        }
    }

    /** How many codes of 15 bits the codes take; 1 << 15 are all. */
    private static int kraft(int[] lengths) {
        int taken = 0;
        for (int length : lengths) {
            taken += length == 0 ? 0 : 1 << 15 - length;
        }
        return taken;
    }

    private static void distancesAreTooMany() {
        int[] literals = set(257, 0, 1, 256, 1);
        Streams.refuses(CHECK, "three of one bit", empty(literals, set(3, 0, 1, 1, 1, 2, 1)));
        Streams.refuses(CHECK, "one of 15 more", empty(literals, with(with(stairs(30), 28, 15), 29, 15)));
        int[] flat = new int[30];
        Arrays.fill(flat, 4);
        Streams.refuses(CHECK, "30 of four bits", empty(literals, flat));
        Arrays.fill(flat, 1);
        Streams.refuses(CHECK, "30 of one bit", empty(literals, flat));
    }

    /** An empty block whose lengths are written by these codes, which need 0, 1 and 18. */
    private static byte[] byLengths(int[] codes) {
        return block().toldHead(257, 1, codes).symbol(codes, 18).number(127, 7).symbol(codes, 18).number(107, 7)
                .symbol(codes, 1).symbol(codes, 0).code(0, 1).sealed(NONE);
    }

    /** Codes of 1 to 6 bits for 18 and 0 to 4: two of seven bits are left, to be whole. */
    private static int[] lengthStairs() {
        return set(19, 18, 1, 0, 2, 1, 3, 2, 4, 3, 5, 4, 6);
    }

    /** "and that of the lengths, are whole". */
    private static void lengthsAreWhole() {
        Streams.opens(CHECK, "three", byLengths(set(19, 0, 2, 1, 2, 18, 1)), NONE);
        Streams.opens(CHECK, "of 1 to 7 bits", byLengths(with(with(lengthStairs(), 5, 7), 6, 7)), NONE);
        int[] longest = set(19, 18, 7, 0, 2, 1, 3, 2, 4, 3, 5, 4, 6, 5, 1, 6, 7);
        Streams.opens(CHECK, "of seven bits", byLengths(longest), NONE);
        Streams.opens(CHECK, "all 19", byLengths(CODES), NONE);
    }

    /** "or have one code alone, or none": they may, but by such a set no lengths make a block. */
    private static void lengthsHaveOneAloneOrNone() {
        for (int length = 1; length <= 7; length++) {
            for (int symbol = 0; symbol < 19; symbol++) {
                Streams.refuses(CHECK, symbol + " alone, of " + length, block().toldHead(257, 1, set(19, symbol, length))
                        .raw(new byte[300]).sealed(NONE));
            }
        }
        Streams.refuses(CHECK, "none", block().toldHead(257, 1, set(19)).sealed(NONE));
        Streams.refuses(CHECK, "none, and zeros", block().toldHead(257, 1, set(19)).raw(new byte[300]).sealed(NONE));
    }

    private static void lengthsAreNotWhole() {
        Streams.refuses(CHECK, "three of two bits", byLengths(set(19, 0, 2, 1, 2, 18, 2)));
        Streams.refuses(CHECK, "1, 2 and 3 bits", byLengths(set(19, 0, 2, 1, 3, 18, 1)));
        Streams.refuses(CHECK, "one of seven bits less", byLengths(with(lengthStairs(), 5, 7)));
        int[] missing = CODES.clone();
        missing[15] = 0;
        Streams.refuses(CHECK, "18 of the 19", byLengths(missing));
    }

    private static void lengthsAreTooMany() {
        Streams.refuses(CHECK, "three of one bit", byLengths(set(19, 0, 1, 1, 1, 18, 1)));
        Streams.refuses(CHECK, "one of seven bits more", byLengths(with(with(with(lengthStairs(), 5, 7), 6, 7), 7, 7)));
        int[] more = CODES.clone();
        more[15] = 4;
        Streams.refuses(CHECK, "one that is shorter", byLengths(more));
    }

    /** Fewer lengths may be told than 19: 4 at least; what is not told has none. */
    private static void fewestLengthsTold() {
        // 16, 17, 18, 0 and 8: 256 literals of eight bits, all but the first, and no distance.
        int[] codes = set(19, 0, 1, 8, 2, 16, 2);
        Bits bits = block().number(0, 5).number(0, 5).number(1, 4);
        bits.number(2, 3).number(0, 3).number(0, 3).number(1, 3).number(2, 3).symbol(codes, 0).symbol(codes, 8);
        for (int i = 0; i < 42; i++) {
            bits.symbol(codes, 16).number(3, 2);
        }
        bits.symbol(codes, 16).number(0, 2).symbol(codes, 0);
        int[] literals = new int[257];
        Arrays.fill(literals, 8);
        literals[0] = 0;
        Streams.opens(CHECK, "five told", bits.symbol(literals, 'f').symbol(literals, 256).sealed(Bytes.text("f")),
                Bytes.text("f"));
        // By four there are but zeros and repeats: 256 has no code.
        Streams.refuses(CHECK, "four told", block().number(0, 5).number(0, 5).number(0, 4).number(0, 3).number(0, 3)
                .number(1, 3).number(1, 3).code(1, 1).number(127, 7).code(1, 1).number(108, 7).code(0, 1).code(0, 1)
                .sealed(NONE));
    }

    /** "256 has one". */
    private static void endHasACode() {
        Streams.refuses(CHECK, "two others", block().told(set(257, 0, 1, 1, 1), set(1)).code(0, 1).sealed(Bytes.of(0)));
        Streams.refuses(CHECK, "one other", block().told(set(257, 0, 1), set(1)).code(0, 1).sealed(Bytes.of(0)));
        Streams.refuses(CHECK, "257 in its place", block().told(set(258, 0, 1, 257, 1), set(1)).code(0, 1)
                .sealed(Bytes.of(0)));
        Streams.refuses(CHECK, "none at all", block().told(set(257), set(1)).code(0, 1).sealed(NONE));
        Streams.refuses(CHECK, "a distance in its place", block().told(set(257, 0, 1, 1, 1), set(2, 0, 1, 1, 1))
                .code(0, 1).sealed(Bytes.of(0)));
    }

    /** So many lengths of zero, 11 at least. */
    private static Bits zeros(Bits bits, int many) {
        int left = many;
        while (left > 0) {
            int times = left >= 149 ? 138 : left > 138 ? left - 11 : left;
            bits.symbol(CODES, 18).number(times - 11, 7);
            left -= times;
        }
        return bits;
    }

    /** Behind so many lengths that are known, zeros up to 256, which has one bit. */
    private static Bits zerosTo256(Bits bits, int known) {
        return zeros(bits, 256 - known).symbol(CODES, 1);
    }

    /** "a repeat needs a length before". */
    private static void repeatNeedsALengthBefore() {
        for (int times = 3; times <= 6; times++) {
            Bits first = block().toldHead(257, 1, CODES).symbol(CODES, 16).number(times - 3, 2);
            Streams.refuses(CHECK, "at first", zerosTo256(first, times).symbol(CODES, 0).code(0, 1).sealed(NONE));
            Bits second = block().toldHead(257, 1, CODES).symbol(CODES, 0).symbol(CODES, 16).number(times - 3, 2);
            Streams.opens(CHECK, "of the first", zerosTo256(second, times + 1).symbol(CODES, 0).code(0, 1).sealed(NONE),
                    NONE);
        }
        // A block before has told lengths, but they are not before these.
        int[] two = set(257, 0, 1, 256, 1);
        Bits next = Bits.withHead().block(0, 2).told(two, set(1)).symbol(two, 256).block(1, 2).toldHead(257, 1, CODES)
                .symbol(CODES, 16).number(0, 2);
        Streams.refuses(CHECK, "in a second block", zerosTo256(next, 3).symbol(CODES, 0).code(0, 1).sealed(NONE));
    }

    /** Zeros may be repeated at first, and a repeat may follow on them: it is one of zeros. */
    private static void repeatOfZeroNeedsNone() {
        Bits three = block().toldHead(257, 1, CODES).symbol(CODES, 17).number(0, 3);
        Streams.opens(CHECK, "17 at first", zerosTo256(three, 3).symbol(CODES, 0).code(0, 1).sealed(NONE), NONE);
        Streams.opens(CHECK, "18 at first", zerosTo256(block().toldHead(257, 1, CODES), 0).symbol(CODES, 0).code(0, 1)
                .sealed(NONE), NONE);
        Bits then = block().toldHead(257, 1, CODES).symbol(CODES, 17).number(0, 3).symbol(CODES, 16).number(3, 2);
        Streams.opens(CHECK, "16 behind 17", zerosTo256(then, 9).symbol(CODES, 0).code(0, 1).sealed(NONE), NONE);
        Bits more = block().toldHead(257, 1, CODES).symbol(CODES, 18).number(0, 7).symbol(CODES, 16).number(0, 2);
        Streams.opens(CHECK, "16 behind 18", zerosTo256(more, 14).symbol(CODES, 0).code(0, 1).sealed(NONE), NONE);
    }

    /** 3 to 10 zeros by 17, 11 to 138 by 18. */
    private static void zerosOfTheLeastAndTheMost() {
        for (int times : new int[] {3, 4, 9, 10, 11, 12, 137, 138}) {
            Bits bits = block().toldHead(257, 1, CODES);
            if (times <= 10) {
                bits.symbol(CODES, 17).number(times - 3, 3);
            } else {
                bits.symbol(CODES, 18).number(times - 11, 7);
            }
            // The byte behind the zeros has one bit, as 256 has: another number of zeros is another byte.
            byte[] content = Bytes.of(times);
            Streams.opens(CHECK, times + " zeros", zerosTo256(bits.symbol(CODES, 1), times + 1).symbol(CODES, 0)
                    .code(0, 1).code(1, 1).sealed(content), content);
        }
    }

    /** 3 to 6 times by 16. */
    private static void repeatsOfTheLeastAndTheMost() {
        for (int times = 3; times <= 6; times++) {
            // Eight codes of three bits, up to that of 256, the last of them by a repeat.
            int[] literals = new int[257];
            Arrays.fill(literals, 249, 257, 3);
            Bits bits = zeros(block().toldHead(257, 1, CODES), 249);
            for (int i = times; i < 8; i++) {
                bits.symbol(CODES, 3);
            }
            bits.symbol(CODES, 16).number(times - 3, 2).symbol(CODES, 0);
            byte[] content = Bytes.of(249, 255);
            Streams.opens(CHECK, times + " repeats", bits.symbol(literals, 249).symbol(literals, 255)
                    .symbol(literals, 256).sealed(content), content);
        }
    }

    /** The lengths of both sets are one row. */
    private static void repeatFromSetToSet() {
        // 256, 257 and both distances have one bit.
        int[] literals = set(258, 256, 1, 257, 1);
        byte[] content = Bytes.text("kkkk");
        Bits bits = Bits.withHead().stored(0, Bytes.text("k")).block(1, 2).toldHead(258, 2, CODES);
        Streams.opens(CHECK, "of one bit", zerosTo256(bits, 0).symbol(CODES, 16).number(0, 2).symbol(literals, 257)
                .code(0, 1).symbol(literals, 256).sealed(content), content);
        // 29 literals behind 256 and 20 distances have none, by one repeat of zeros.
        Bits zeros = zerosTo256(block().toldHead(286, 20, CODES), 0).symbol(CODES, 18).number(49 - 11, 7);
        Streams.opens(CHECK, "of zeros", zeros.code(0, 1).sealed(NONE), NONE);
        // The distance's own first length is a repeat of 256's.
        Bits first = zerosTo256(Bits.withHead().block(1, 2).toldHead(257, 3, CODES), 0).symbol(CODES, 16).number(0, 2);
        Streams.refuses(CHECK, "three distances of one bit", first.code(0, 1).sealed(NONE));
    }

    /** "none goes beyond all": up to the very last they may. */
    private static void repeatsUpToAll() {
        for (int times = 3; times <= 6; times++) {
            Bits bits = zerosTo256(block().toldHead(257, times + 1, CODES), 0).symbol(CODES, 0).symbol(CODES, 16)
                    .number(times - 3, 2);
            Streams.opens(CHECK, times + " by 16", bits.code(0, 1).sealed(NONE), NONE);
        }
        for (int times : new int[] {3, 4, 9, 10}) {
            Bits bits = zerosTo256(block().toldHead(257, times, CODES), 0).symbol(CODES, 17).number(times - 3, 3);
            Streams.opens(CHECK, times + " by 17", bits.code(0, 1).sealed(NONE), NONE);
        }
        for (int times : new int[] {11, 12, 29, 30}) {
            Bits bits = zerosTo256(block().toldHead(257, times, CODES), 0).symbol(CODES, 18).number(times - 11, 7);
            Streams.opens(CHECK, times + " by 18", bits.code(0, 1).sealed(NONE), NONE);
        }
    }

    /** As many lengths as there are at most, 286 and 30, the last 59 by one repeat. */
    private static void repeatUpToTheMost() {
        Bits zeros = zerosTo256(block().toldHead(286, 30, CODES), 0).symbol(CODES, 18).number(59 - 11, 7);
        Streams.opens(CHECK, "59 by 18", zeros.code(0, 1).sealed(NONE), NONE);
        // 30 distances of five bits are not whole, but two of them of four bits make them so.
        int[] distances = new int[30];
        Arrays.fill(distances, 5);
        distances[0] = 4;
        distances[1] = 4;
        Bits bits = zerosTo256(block().toldHead(286, 30, CODES), 0);
        for (int i = 257; i < 286; i++) {
            bits.symbol(CODES, 0);
        }
        bits.symbol(CODES, 4).symbol(CODES, 4).symbol(CODES, 5).symbol(CODES, 5).symbol(CODES, 5).symbol(CODES, 5);
        for (int i = 0; i < 4; i++) {
            bits.symbol(CODES, 16).number(3, 2);
        }
        CHECK.equal("a whole set", kraft(distances), 1 << 15);
        Streams.opens(CHECK, "24 by 16", bits.code(0, 1).sealed(NONE), NONE);
    }

    private static void repeatsBeyondAll() {
        for (int times = 3; times <= 6; times++) {
            for (int room = 1; room < times; room++) {
                Bits bits = zerosTo256(block().toldHead(257, room + 1, CODES), 0).symbol(CODES, 0).symbol(CODES, 16)
                        .number(times - 3, 2);
                Streams.refuses(CHECK, times + " by 16 for " + room, bits.code(0, 1).sealed(NONE));
            }
        }
        for (int[] timesAndRoom : new int[][] {{3, 1}, {3, 2}, {4, 3}, {10, 1}, {10, 9}}) {
            Bits bits = zerosTo256(block().toldHead(257, timesAndRoom[1], CODES), 0).symbol(CODES, 17)
                    .number(timesAndRoom[0] - 3, 3);
            Streams.refuses(CHECK, timesAndRoom[0] + " by 17 for " + timesAndRoom[1], bits.code(0, 1).sealed(NONE));
        }
        for (int[] timesAndRoom : new int[][] {{11, 1}, {11, 10}, {30, 29}, {31, 30}, {138, 30}}) {
            Bits bits = zerosTo256(block().toldHead(257, timesAndRoom[1], CODES), 0).symbol(CODES, 18)
                    .number(timesAndRoom[0] - 11, 7);
            Streams.refuses(CHECK, timesAndRoom[0] + " by 18 for " + timesAndRoom[1], bits.code(0, 1).sealed(NONE));
        }
        // One that begins among the literals and ends behind the distances.
        Bits bits = zerosTo256(block().toldHead(286, 30, CODES), 0).symbol(CODES, 18).number(60 - 11, 7);
        Streams.refuses(CHECK, "60 by 18 for 59", bits.code(0, 1).sealed(NONE));
    }

    /** "No codes that there are not": where one alone is told, its bits are 0, and all else is none. */
    private static void codesThatThereAreNot() {
        for (int length : new int[] {1, 2, 15}) {
            int[] alone = set(257, 256, length);
            for (int wrong : new int[] {1, (1 << length) - 1, 1 << length - 1}) {
                Streams.refuses(CHECK, "not the end, of " + length, block().told(alone, set(1)).code(wrong, length)
                        .sealed(NONE));
                Streams.refuses(CHECK, "not the end, then it", block().told(alone, set(1)).code(wrong, length)
                        .raw(new byte[4]).sealed(NONE));
                Streams.refuses(CHECK, "not the distance, of " + length, block().told(WITH_COPIES, set(1, 0, length))
                        .symbol(WITH_COPIES, 'a').symbol(WITH_COPIES, 257).code(wrong, length)
                        .symbol(WITH_COPIES, 256).sealed(Bytes.text("aaaa")));
            }
        }
    }

    /** "no copies from before the beginning", by codes that are told. */
    private static void distancesOutOfReach() {
        int[] distances = set(30, 0, 1, 1, 2, 29, 2);
        byte[] content = Bytes.text("aaaa");
        Bits near = block().told(WITH_COPIES, distances).symbol(WITH_COPIES, 'a').symbol(WITH_COPIES, 257);
        Streams.opens(CHECK, "by 1 of 1", near.symbol(distances, 0).symbol(WITH_COPIES, 256).sealed(content), content);
        Bits far = block().told(WITH_COPIES, distances).symbol(WITH_COPIES, 'a').symbol(WITH_COPIES, 257);
        Streams.refuses(CHECK, "by 2 of 1", far.symbol(distances, 1).symbol(WITH_COPIES, 256).sealed(content));
        Bits farthest = block().told(WITH_COPIES, distances).symbol(WITH_COPIES, 'a').symbol(WITH_COPIES, 257);
        Streams.refuses(CHECK, "by 24577 of 1", farthest.symbol(distances, 29).number(0, 13).symbol(WITH_COPIES, 256)
                .sealed(content));
        Bits first = block().told(WITH_COPIES, distances).symbol(WITH_COPIES, 257);
        Streams.refuses(CHECK, "by 1 of none", first.symbol(distances, 0).symbol(WITH_COPIES, 256).sealed(new byte[3]));
    }

    /** Codes are told for one block: the next has its own, or the fixed ones. */
    private static void nextBlockTellsItsOwn() {
        int[] two = set(2, 0, 1, 1, 1);
        byte[] content = Bytes.text("aaaa");
        Bits copied = Bits.withHead().block(0, 2).told(WITH_COPIES, two).symbol(WITH_COPIES, 'a').symbol(WITH_COPIES, 257)
                .symbol(two, 0).symbol(WITH_COPIES, 256);
        byte[] more = Bytes.text("aaaax");
        int[] other = set(257, 'x', 1, 256, 1);
        Streams.opens(CHECK, "others", copied.block(0, 1).fixed('x').fixed(256).block(1, 2).told(other, set(1))
                .symbol(other, 256).sealed(more), more);
        Bits again = Bits.withHead().block(0, 2).told(WITH_COPIES, two).symbol(WITH_COPIES, 'a').symbol(WITH_COPIES, 256)
                .block(1, 2).told(WITH_COPIES, set(2)).symbol(WITH_COPIES, 257).code(0, 1).symbol(WITH_COPIES, 256);
        Streams.refuses(CHECK, "the distances of the one before", again.sealed(content));
        // Codes of every length, up to 15 bits, and then of few.
        int[] longLiterals = with(stairs(257), 256, 15);
        int[] longDistances = with(stairs(30), 29, 15);
        Bits few = Bits.withHead().block(0, 2).told(longLiterals, longDistances).symbol(longLiterals, 256)
                .block(1, 2).told(WITH_COPIES, two).symbol(WITH_COPIES, 'a').symbol(WITH_COPIES, 257)
                .symbol(two, 0).symbol(WITH_COPIES, 256);
        Streams.opens(CHECK, "few behind many", few.sealed(content), content);
    }

    /** "no bytes that there are not": cut anywhere, also with the right sum behind. */
    private static void noBytesThatThereAreNot() {
        byte[] content = Bytes.text("abbbb");
        byte[] stream = copy(set(2, 0, 1, 1, 1), 0);
        byte[] sum = Arrays.copyOfRange(stream, stream.length - 4, stream.length);
        Streams.opens(CHECK, "whole", stream, content);
        for (int many = 0; many < stream.length; many++) {
            Streams.refuses(CHECK, "cut to " + many, Arrays.copyOf(stream, many));
        }
        for (int many = 0; many < stream.length - 4; many++) {
            Streams.refuses(CHECK, "cut to " + many + " and the sum", Bytes.join(Arrays.copyOf(stream, many), sum));
        }
    }
}
