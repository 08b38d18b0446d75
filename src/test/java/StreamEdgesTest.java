import java.util.Arrays;

/** The edges of A STREAM but for codes that it tells, clause by clause: what stands in quotes is the document's. */
public final class StreamEdgesTest {
    private static final byte[] NONE = Streams.NONE;
    private static final Check CHECK = new Check();

    public static void main(String[] args) {
        methodEight();
        windowUpToSeven();
        multipleOf31();
        noDictionary();
        blocksUpToALastOne();
        kindsOfBlocks();
        storedBeginsWithANewByte();
        storedLengths();
        storedLengthsThatDoNotFit();
        storedBytesThatThereAreNot();
        literalsUpTo285();
        lengthsOnBothSides();
        distancesUpTo29();
        distancesOnBothSides();
        noCopiesFromBeforeTheBeginning();
        beginningIsThatOfAllBlocks();
        sumInTheLastFourBytes();
        sumOnBothSides();
        restOfAByteBetween();
        noBytesBetween();
        noBytesThatThereAreNot();
        CHECK.end();
    }

    /** The head of this method, window and dictionary bit, with the check bits that make it a multiple of 31. */
    private static int[] head(int method, int window, int dictionary) {
        int high = window * 16 + method;
        int low = 0x80 + dictionary * 32;
        low += (31 - (high * 256 + low) % 31) % 31;
        return new int[] {high, low};
    }

    private static byte[] withHead(int... head) {
        byte[] content = Bytes.text("head");
        return new Bits().raw(head).block(1, 1).literals(content).fixed(256).sealed(content);
    }

    /** "method 8". */
    private static void methodEight() {
        Streams.opens(CHECK, "method 8", withHead(head(8, 7, 0)), Bytes.text("head"));
        for (int method : new int[] {0, 1, 7, 9, 15}) {
            Streams.refuses(CHECK, "method " + method, withHead(head(method, 7, 0)));
        }
    }

    /** "a window up to 7". */
    private static void windowUpToSeven() {
        for (int window = 0; window <= 7; window++) {
            Streams.opens(CHECK, "window " + window, withHead(head(8, window, 0)), Bytes.text("head"));
        }
        for (int window = 8; window <= 15; window++) {
            Streams.refuses(CHECK, "window " + window, withHead(head(8, window, 0)));
        }
    }

    /** "the highest byte times 256 and the other one a multiple of 31". */
    private static void multipleOf31() {
        for (int second : new int[] {0x01, 0x5E, 0x9C, 0xDA}) {
            Streams.opens(CHECK, "78 and " + second, withHead(0x78, second), Bytes.text("head"));
            Streams.refuses(CHECK, "one less than " + second, withHead(0x78, second - 1));
            Streams.refuses(CHECK, "one more than " + second, withHead(0x78, second + 1));
        }
        Streams.refuses(CHECK, "the other one first", withHead(0x9C, 0x78));
    }

    /** "no dictionary". */
    private static void noDictionary() {
        for (int window : new int[] {0, 7}) {
            int[] head = head(8, window, 1);
            CHECK.equal("a multiple of 31", (head[0] * 256 + head[1]) % 31, 0);
            Streams.refuses(CHECK, "a dictionary", withHead(head));
            byte[] content = Bytes.text("head");
            Streams.refuses(CHECK, "a dictionary with its sum", new Bits().raw(head).raw(0, 0, 0, 1).block(1, 1)
                    .literals(content).fixed(256).sealed(content));
        }
    }

    /** "blocks up to a last one". */
    private static void blocksUpToALastOne() {
        byte[] a = Bytes.text("a");
        byte[] ab = Bytes.text("ab");
        Streams.opens(CHECK, "one", fixedA(1).fixed(256).sealed(a), a);
        Streams.opens(CHECK, "two", fixedA(0).fixed(256).block(1, 1).fixed('b').fixed(256).sealed(ab), ab);
        Streams.refuses(CHECK, "none", Bits.withHead().sealed(NONE));
        Streams.refuses(CHECK, "no last one", fixedA(0).fixed(256).sealed(a));
        Streams.refuses(CHECK, "no last one of two", fixedA(0).fixed(256).block(0, 1).fixed('b').fixed(256).sealed(ab));
        Streams.refuses(CHECK, "two last ones", fixedA(1).fixed(256).block(1, 1).fixed('b').fixed(256).sealed(ab));
        Streams.refuses(CHECK, "the last one first", fixedA(1).fixed(256).block(0, 1).fixed('b').fixed(256).sealed(ab));
        Streams.refuses(CHECK, "the last one without its end", fixedA(1).sealed(a));
        // Ten bits each: 3189 of them and head and sum are 3993 bytes.
        Bits bits = Bits.withHead();
        for (int i = 0; i < 3188; i++) {
            bits.block(0, 1).fixed(256);
        }
        Streams.opens(CHECK, "3189 blocks", bits.block(1, 1).fixed(256).sealed(NONE), NONE);
    }

    /** "stored, by fixed codes, or by codes that it tells": there is no fourth kind. */
    private static void kindsOfBlocks() {
        for (int last = 0; last <= 1; last++) {
            Streams.refuses(CHECK, "kind 3", Bits.withHead().block(last, 3).sealed(NONE));
            Streams.refuses(CHECK, "kind 3 as a fixed one", Bits.withHead().block(last, 3).fixed(256).sealed(NONE));
            Streams.refuses(CHECK, "kind 3 as a stored one", Bits.withHead().block(last, 3).rest(0).raw(0, 0, 255, 255)
                    .sealed(NONE));
        }
        Streams.refuses(CHECK, "kind 3 behind others", fixedA(0).fixed(256).block(1, 3).fixed(256).sealed(Bytes.text("a")));
    }

    /** "A stored block begins with a new byte": wherever the block begins, and whatever is left of that byte. */
    private static void storedBeginsWithANewByte() {
        for (int many = 0; many < 8; many++) {
            for (int rest = 0; rest <= 1; rest++) {
                // 10 bits and nine of each byte: the stored block begins at each of a byte's bits.
                byte[] before = Bytes.unlike(144, many);
                byte[] content = Bytes.join(before, Bytes.text("st"));
                Streams.opens(CHECK, "behind " + many, Bits.withHead().block(0, 1).literals(before).fixed(256).block(1, 0)
                        .rest(rest).raw(2, 0, 253, 255).raw(Bytes.text("st")).sealed(content), content);
            }
        }
        byte[] two = Bytes.text("stst");
        Streams.opens(CHECK, "behind a stored one", Bits.withHead().stored(0, Bytes.text("st")).stored(1, Bytes.text("st"))
                .sealed(two), two);
        Streams.refuses(CHECK, "no new byte", Bits.withHead().block(1, 0).raw(2, 0, 253, 255).raw(Bytes.text("st"))
                .sealed(Bytes.text("st")));
        Streams.refuses(CHECK, "a byte more", Bits.withHead().block(1, 0).rest(0).raw(0).raw(2, 0, 253, 255)
                .raw(Bytes.text("st")).sealed(Bytes.text("st")));
    }

    private static void storedLengths() {
        for (int many : new int[] {0, 1, 2, 255, 256, 257, 3988, 3989}) {
            byte[] content = Bytes.unlike(7, many);
            Streams.opens(CHECK, "stored " + many, Bits.withHead().stored(1, content).sealed(content), content);
        }
        byte[] part = Bytes.unlike(7, 30);
        Streams.opens(CHECK, "stored none between", Bits.withHead().stored(0, NONE).stored(0, part).stored(0, NONE)
                .stored(1, NONE).sealed(part), part);
    }

    /** Of a stored block's two lengths the second is the first with each of its bits turned. */
    private static void storedLengthsThatDoNotFit() {
        byte[] content = Bytes.text("fits");
        for (int bit = 0; bit < 16; bit++) {
            Streams.refuses(CHECK, "bit " + bit, Bits.withHead().block(1, 0).rest(0).number(4, 16)
                    .number(0xFFFB ^ 1 << bit, 16).raw(content).sealed(content));
        }
        Streams.refuses(CHECK, "the same twice", Bits.withHead().block(1, 0).rest(0).raw(4, 0, 4, 0).raw(content)
                .sealed(content));
        Streams.refuses(CHECK, "the highest byte first", Bits.withHead().block(1, 0).rest(0).raw(0, 4, 255, 251)
                .raw(content).sealed(content));
    }

    private static void storedBytesThatThereAreNot() {
        byte[] content = Bytes.text("four");
        for (int told : new int[] {0, 3, 5, 8, 9, 256, 4000, 65535}) {
            Streams.refuses(CHECK, "4 told as " + told, Bits.withHead().block(1, 0).rest(0).number(told, 16)
                    .number(told ^ 0xFFFF, 16).raw(content).sealed(content));
        }
        // The sum's own bytes are no part of the block.
        Streams.refuses(CHECK, "the sum as stored bytes", Bits.withHead().block(1, 0).rest(0).raw(4, 0, 251, 255)
                .sealed(NONE));
        for (int missing = 1; missing <= 4; missing++) {
            Streams.refuses(CHECK, "without lengths", Bits.withHead().block(1, 0).rest(0)
                    .raw(Arrays.copyOf(Bytes.of(0, 0, 255, 255), 4 - missing)).sealed(NONE));
        }
    }

    /** "No codes that there are not (literals up to 285 ...)". */
    private static void literalsUpTo285() {
        byte[] bytes = Bytes.of(0, 143, 144, 255);
        Streams.opens(CHECK, "bytes", Bits.withHead().block(1, 1).literals(bytes).fixed(256).sealed(bytes), bytes);
        byte[] copied = Bytes.times('a', 259);
        Streams.opens(CHECK, "285", fixedA(1).fixed(285).code(0, 5).fixed(256).sealed(copied), copied);
        for (int symbol : new int[] {286, 287}) {
            for (int length : new int[] {0, 3, 258, 259}) {
                byte[] content = Bytes.times('a', 1 + length);
                Streams.refuses(CHECK, symbol + " as a copy", fixedA(1).fixed(symbol).code(0, 5).fixed(256).sealed(content));
                Streams.refuses(CHECK, symbol + " alone", fixedA(1).fixed(symbol).fixed(256).sealed(content));
            }
        }
    }

    /** The shortest and the longest copy of each length code. */
    private static void lengthsOnBothSides() {
        int[] first = {3, 4, 5, 6, 7, 8, 9, 10, 11, 13, 15, 17, 19, 23, 27, 31, 35, 43, 51, 59, 67, 83, 99, 115, 131, 163,
            195, 227, 258};
        int[] extra = {0, 0, 0, 0, 0, 0, 0, 0, 1, 1, 1, 1, 2, 2, 2, 2, 3, 3, 3, 3, 4, 4, 4, 4, 5, 5, 5, 5, 0};
        for (int i = 0; i < first.length; i++) {
            int most = (1 << extra[i]) - 1;
            for (int more : new int[] {0, most}) {
                // By distance 2, and with a byte behind: they show how many bits the length has.
                byte[] content = Bytes.join(Bytes.text("ab"), copied(Bytes.text("ab"), first[i] + more), Bytes.text("z"));
                Streams.opens(CHECK, "code " + (257 + i) + " and " + more, fixedA(1).fixed('b')
                        .fixedCopy(257 + i, more, extra[i], 1, 0, 0).fixed('z').fixed(256).sealed(content), content);
            }
        }
    }

    /** "No codes that there are not (... distances up to 29)". */
    private static void distancesUpTo29() {
        byte[] content = Bytes.text("aaaa");
        for (int distance : new int[] {30, 31}) {
            for (int extra : new int[] {0, 13, 14}) {
                Streams.refuses(CHECK, "distance code " + distance, fixedA(1)
                        .fixedCopy(257, 0, 0, distance, 0, extra).fixed(256).sealed(content));
            }
        }
        // There are such codes, but no result is long enough for them.
        for (int distance = 26; distance <= 29; distance++) {
            int extra = distance / 2 - 1;
            byte[] most = Bytes.times('m', 8192);
            Streams.refuses(CHECK, "distance code " + distance, longRun(1, 8189).fixedCopy(257, 0, 0, distance, 0, extra)
                    .fixed(256).sealed(most));
        }
    }

    /** The nearest and the farthest copy of each distance code, from a result that is just as long. */
    private static void distancesOnBothSides() {
        int[] first = {1, 2, 3, 4, 5, 7, 9, 13, 17, 25, 33, 49, 65, 97, 129, 193, 257, 385, 513, 769, 1025, 1537, 2049,
            3073};
        for (int code = 0; code < first.length; code++) {
            int extra = code < 4 ? 0 : code / 2 - 1;
            for (int more : new int[] {0, (1 << extra) - 1}) {
                int distance = first[code] + more;
                if (distance <= 3900) {
                    byte[] part = Bytes.unlike(9, distance);
                    byte[] content = Bytes.join(part, copied(part, 3), Bytes.text("z"));
                    Streams.opens(CHECK, "distance " + distance, Bits.withHead().stored(0, part).block(1, 1)
                            .fixedCopy(257, 0, 0, code, more, extra).fixed('z').fixed(256).sealed(content), content);
                }
            }
        }
        farDistances();
    }

    /** Distances that only a result longer than the tape has: one byte that is another tells where they are. */
    private static void farDistances() {
        int[][] codes = {{23, 1023, 4096}, {24, 0, 4097}, {24, 2047, 6144}, {25, 0, 6145}, {25, 2043, 8188}};
        for (int[] code : codes) {
            byte[] content = Bytes.join(Bytes.text("x"), Bytes.times('m', code[2] - 1), Bytes.text("xmmz"));
            Bits bits = runBehind(Bits.withHead().block(1, 1).fixed('x'), code[2] - 1);
            Streams.opens(CHECK, "distance " + code[2], bits.fixedCopy(257, 0, 0, code[0], code[1], code[0] / 2 - 1)
                    .fixed('z').fixed(256).sealed(content), content);
        }
        byte[] most = Bytes.join(Bytes.text("x"), Bytes.times('m', 8188), Bytes.text("xmm"));
        Streams.opens(CHECK, "distance 8189", runBehind(Bits.withHead().block(1, 1).fixed('x'), 8188)
                .fixedCopy(257, 0, 0, 25, 2044, 11).fixed(256).sealed(most), most);
    }

    /** "no copies from before the beginning": from the first byte, and not from one before it. */
    private static void noCopiesFromBeforeTheBeginning() {
        for (int many : new int[] {1, 2, 3, 4, 5, 6, 7, 8, 9, 12, 16, 24, 256, 257, 1024, 3000, 3900}) {
            byte[] part = Bytes.unlike(9, many);
            byte[] content = Bytes.join(part, copied(part, 3));
            Streams.opens(CHECK, "from the first of " + many, Bits.withHead().stored(0, part).block(1, 1).copy(3, many)
                    .fixed(256).sealed(content), content);
            for (byte[] due : new byte[][] {content, Bytes.join(part, Bytes.of(0), copied(part, 2)),
                Bytes.join(part, new byte[3])}) {
                Streams.refuses(CHECK, "from before the first of " + many, Bits.withHead().stored(0, part).block(1, 1)
                        .copy(3, many + 1).fixed(256).sealed(due));
            }
        }
        for (int distance : new int[] {1, 2, 3, 258, 4096, 8192, 8193, 32768}) {
            Streams.refuses(CHECK, "of nothing by " + distance, Bits.withHead().block(1, 1).copy(3, distance).fixed(256)
                    .sealed(new byte[3]));
        }
        Streams.refuses(CHECK, "from far before", longRun(1, 8189).copy(3, 8190).fixed(256).sealed(Bytes.times('m', 8192)));
    }

    /** The beginning is that of the result, not that of a block. */
    private static void beginningIsThatOfAllBlocks() {
        byte[] content = Bytes.text("abcabc");
        Streams.opens(CHECK, "of a stored one", Bits.withHead().stored(0, Bytes.text("abc")).block(1, 1).copy(3, 3)
                .fixed(256).sealed(content), content);
        Streams.opens(CHECK, "of a fixed one", Bits.withHead().block(0, 1).literals(Bytes.text("abc")).fixed(256)
                .block(0, 1).fixed(256).block(1, 1).copy(3, 3).fixed(256).sealed(content), content);
    }

    /** "in the last 4 bytes ... ADLER-32". */
    private static void sumInTheLastFourBytes() {
        byte[] stream = Oracle.packed(Bytes.text("four"));
        int at = stream.length - 4;
        Streams.opens(CHECK, "the sum", stream, Bytes.text("four"));
        for (int bit = 0; bit < 32; bit++) {
            byte[] wrong = stream.clone();
            wrong[at + bit / 8] ^= 1 << bit % 8;
            Streams.refuses(CHECK, "bit " + bit, wrong);
        }
        for (int many = 0; many < 4; many++) {
            Streams.refuses(CHECK, many + " bytes of it", Arrays.copyOf(stream, at + many));
            Streams.refuses(CHECK, "the last " + many, Bytes.join(Arrays.copyOf(stream, at),
                    Arrays.copyOfRange(stream, stream.length - many, stream.length)));
        }
        Streams.refuses(CHECK, "the lowest first", Bytes.join(Arrays.copyOf(stream, at),
                Bytes.of(stream[at + 3], stream[at + 2], stream[at + 1], stream[at])));
        Streams.refuses(CHECK, "a byte behind it", Bytes.join(stream, Bytes.of(0)));
        Streams.refuses(CHECK, "twice", Bytes.join(stream, Arrays.copyOfRange(stream, at, stream.length)));
    }

    /** "of none 1", and where the halves wrap around. */
    private static void sumOnBothSides() {
        Streams.opens(CHECK, "of none", Bits.withHead().stored(1, NONE).raw(0, 0, 0, 1).toBytes(), NONE);
        Streams.refuses(CHECK, "0 of none", Bits.withHead().stored(1, NONE).raw(0, 0, 0, 0).toBytes());
        for (int last : new int[] {239, 240, 241}) {
            byte[] content = Bytes.join(Bytes.times(255, 256), Bytes.of(last));
            Streams.opens(CHECK, "by " + last, Bits.withHead().stored(1, content).sealed(content), content);
        }
        // The low half 0 may not stand as 65521.
        byte[] content = Bytes.join(Bytes.times(255, 256), Bytes.of(240));
        int high = State.sum(content) >>> 16;
        Streams.refuses(CHECK, "65521", Bits.withHead().stored(1, content).raw(high >> 8, high & 255, 0xFF, 0xF1).toBytes());
    }

    /** "with none but the rest of a byte between": 0 to 7 bits, of whatever kind. */
    private static void restOfAByteBetween() {
        for (int many = 0; many < 8; many++) {
            byte[] content = Bytes.unlike(144, many);
            for (int rest = 0; rest <= 1; rest++) {
                Streams.opens(CHECK, "behind " + many, Bits.withHead().block(1, 1).literals(content).fixed(256).rest(rest)
                        .sealed(content), content);
            }
        }
    }

    private static void noBytesBetween() {
        for (int many = 0; many < 8; many++) {
            byte[] content = Bytes.unlike(144, many);
            for (int between : new int[] {0, 1, 255}) {
                Streams.refuses(CHECK, "behind " + many, Bits.withHead().block(1, 1).literals(content).fixed(256).rest(0)
                        .raw(between).sealed(content));
            }
        }
        byte[] content = Bytes.text("between");
        Streams.refuses(CHECK, "behind a stored one", Bits.withHead().stored(1, content).raw(0).sealed(content));
        Streams.refuses(CHECK, "many", Bits.withHead().stored(1, content).raw(new byte[300]).sealed(content));
    }

    /** "no bytes that there are not": cut anywhere, also with the right sum behind. */
    private static void noBytesThatThereAreNot() {
        byte[] content = Bytes.text("cut anywhere, cut anywhere");
        for (byte[] stream : new byte[][] {Oracle.packed(content), Bits.withHead().stored(1, content).sealed(content)}) {
            byte[] sum = Arrays.copyOfRange(stream, stream.length - 4, stream.length);
            for (int many = 0; many < stream.length; many++) {
                Streams.refuses(CHECK, "cut to " + many, Arrays.copyOf(stream, many));
            }
            for (int many = 0; many < stream.length - 4; many++) {
                Streams.refuses(CHECK, "cut to " + many + " and the sum", Bytes.join(Arrays.copyOf(stream, many), sum));
            }
        }
        // Four zeros of the end's seven: the sum, 00 C9 00 C9, has the others in its own first byte.
        Streams.refuses(CHECK, "the sum as the end", Bits.withHead().block(1, 1).fixed(200).number(0, 4)
                .sealed(Bytes.of(200)));
    }

    private static Bits fixedA(int last) {
        return Bits.withHead().block(last, 1).fixed('a');
    }

    /** A block that has written so many bytes, all alike. */
    private static Bits longRun(int last, int many) {
        return runBehind(Bits.withHead().block(last, 1), many);
    }

    private static Bits runBehind(Bits bits, int many) {
        bits.fixed('m');
        int left = many - 1;
        while (left >= 261) {
            bits.copy(258, 1);
            left -= 258;
        }
        while (left >= 6) {
            bits.copy(3, 1);
            left -= 3;
        }
        while (left > 0) {
            bits.fixed('m');
            left--;
        }
        return bits;
    }

    /** What a copy from the first byte of the part makes. */
    private static byte[] copied(byte[] part, int many) {
        byte[] bytes = new byte[many];
        for (int i = 0; i < many; i++) {
            bytes[i] = part[i % part.length];
        }
        return bytes;
    }
}
