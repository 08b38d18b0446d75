import java.util.Arrays;

/** The edges of promise 5 and of PACKED, sentence by sentence: what stands in quotes is the document's. */
public final class PackEdgesTest {
    private static final Class<IndexOutOfBoundsException> BOUNDS = IndexOutOfBoundsException.class;
    private static final Check CHECK = new Check();

    public static void main(String[] args) {
        packOfNothing();
        packOfOneByte();
        packOfAFullTape();
        packOfAFullTapeOfOneByte();
        tapeIsEmptyThen();
        resultIsReplaced();
        codesOfBytes();
        restOfTheLastByte();
        sumIsHighestFirst();
        twoBytesAlike();
        threeBytesAlike();
        threeBytesAlikeAtTheEnd();
        upTo258();
        upTo258InAFarCopy();
        notBeyondTheEnd();
        notIntoWhatWasCut();
        notIntoWhatWasPackedBefore();
        longestNotNearest();
        nearestOfTheLongest();
        nearestOfThoseOf258();
        allEarlierOnes();
        earlierOnesInsideACopy();
        copyIntoItself();
        atEachByte();
        bytesNotNumbers();
        lengthCodes();
        distanceCodes();
        nearestAndFarthest();
        CHECK.end();
    }

    private static void packOfNothing() {
        FixedPress press = new FixedPress();
        CHECK.equal("pack of none", press.pack(), 8);
        // The last block, kind 1, 256 as seven zeros: 3, 0; and the sum of none.
        CHECK.equal("its bytes", press.word(0), 0x789C030000000001L);
        CHECK.refuses("and no more", BOUNDS, () -> press.word(8));
        CHECK.equal("pack of none again", press.pack(), 8);
        CHECK.equal("its bytes", press.word(0), 0x789C030000000001L);
    }

    private static void packOfOneByte() {
        for (int value : new int[] {0, 1, 127, 128, 143, 144, 254, 255}) {
            packs("the byte " + value, Bytes.of(value), block().fixed(value));
        }
    }

    /** "THE TAPE has at most 4000 bytes, THE RESULT at most 8192": nine bits of each byte are the most. */
    private static void packOfAFullTape() {
        byte[] content = Bytes.unlike(144, 4000);
        packs("4000 bytes of nine bits", content, block().literals(content));
        FixedPress press = Bytes.withTape(content);
        // 3 + 36000 + 7 bits are 4502 bytes.
        CHECK.equal("pack of 4000", press.pack(), 2 + 4502 + 4);
        CHECK.refuses("back", BOUNDS, press::back);
        byte[] one = Bytes.unlike(144, 3999);
        packs("3999 bytes of nine bits", one, block().literals(one));
    }

    private static void packOfAFullTapeOfOneByte() {
        // One byte, 15 copies of 258, and 129 are left.
        packs("4000 times 0", new byte[4000], copies(block().fixed(0), 15).copy(129, 1));
        packs("4000 times 255", Bytes.times(255, 4000), copies(block().fixed(255), 15).copy(129, 1));
    }

    private static Bits copies(Bits bits, int many) {
        for (int i = 0; i < many; i++) {
            bits.copy(258, 1);
        }
        return bits;
    }

    /** "the TAPE, which is empty then". */
    private static void tapeIsEmptyThen() {
        for (int many : new int[] {0, 1, 4000}) {
            FixedPress press = new FixedPress();
            press.fill(1, 200, many);
            press.pack();
            CHECK.equal("count(0)", press.count(0), 0);
            CHECK.refuses("patch(0)", IllegalArgumentException.class, () -> press.patch(0, 0));
            CHECK.equal("room for all", press.fill(1, 200, 4000), 4000);
        }
    }

    /** "THE RESULT is the TAPE ... PACKED": nothing stays of the one before, longer or shorter. */
    private static void resultIsReplaced() {
        byte[][] contents = {Bytes.unlike(144, 4000), Bytes.text("short"), new byte[0], Bytes.unlike(0, 100)};
        FixedPress press = new FixedPress();
        for (byte[] content : contents) {
            Bytes.load(press, content);
            CHECK.equal("pack", press.pack(), Oracle.packed(content).length);
            State.result(CHECK, "packed anew", press, Oracle.packed(content));
        }
    }

    /** "Deflate's fixed codes": eight bits up to 143, nine from 144 on. */
    private static void codesOfBytes() {
        packs("0 and 143", Bytes.of(0, 143), block().code(0x30, 8).code(0xBF, 8));
        packs("144 and 255", Bytes.of(144, 255), block().code(0x190, 9).code(0x1FF, 9));
        byte[] every = new byte[256];
        for (int i = 0; i < 256; i++) {
            every[i] = (byte) i;
        }
        packs("every byte", every, block().literals(every));
    }

    /** "one last block ...; ADLER-32": of the rest of a byte, 0 to 7 bits, all are 0. */
    private static void restOfTheLastByte() {
        // 3 + 7 bits, eight of each byte and one more of each from 144 on.
        for (int more = 0; more <= 8; more++) {
            byte[] content = Bytes.join(Bytes.unlike(144, more), Bytes.text("abc"));
            packs(more + " bytes of nine bits", content, block().literals(content));
            FixedPress press = Bytes.withTape(content);
            CHECK.equal("its length", press.pack(), 2 + (3 + 8 * 3 + 9 * more + 7 + 7) / 8 + 4);
        }
    }

    /** "ADLER-32 (4, the highest byte first)". */
    private static void sumIsHighestFirst() {
        FixedPress press = Bytes.withTape(Bytes.text("Wikipedia"));
        int packed = press.pack();
        CHECK.equal("the last four bytes", press.word(packed - 4), 0x11E6039800000000L);
        // 16 times 255: its highest bit is set.
        Bytes.load(press, Bytes.times(255, 16));
        packed = press.pack();
        CHECK.equal("the last four bytes", press.word(packed - 4), 34696L << 48 | 4081L << 32);
    }

    /** "at least 3 bytes are alike": two are not enough. */
    private static void twoBytesAlike() {
        for (String text : new String[] {"ab-ab", "ab-ab+ab*", "aa", "aaa", "abab", "ababX", "aabaab".substring(0, 5)}) {
            byte[] content = Bytes.text(text);
            packs(text, content, block().literals(content));
        }
    }

    /** "at least 3 bytes are alike": three are. */
    private static void threeBytesAlike() {
        packs("abc-abc+", Bytes.text("abc-abc+"), block().literals(Bytes.text("abc-")).copy(3, 4).fixed('+'));
        packs("abc-abc-", Bytes.text("abc-abc-"), block().literals(Bytes.text("abc-")).copy(4, 4));
        packs("aaaa", Bytes.text("aaaa"), block().fixed('a').copy(3, 1));
        packs("ababa", Bytes.text("ababa"), block().literals(Bytes.text("ab")).copy(3, 2));
    }

    /** "not beyond the end": three last bytes are a copy, two are not. */
    private static void threeBytesAlikeAtTheEnd() {
        packs("xyz-xyz", Bytes.text("xyz-xyz"), block().literals(Bytes.text("xyz-")).copy(3, 4));
        packs("xyz-xy", Bytes.text("xyz-xy"), block().literals(Bytes.text("xyz-xy")));
        packs("xyz-x", Bytes.text("xyz-x"), block().literals(Bytes.text("xyz-x")));
    }

    /** "up to 258". */
    private static void upTo258() {
        packs("a run of 258", Bytes.times('a', 258), block().fixed('a').copy(257, 1));
        packs("a run of 259", Bytes.times('a', 259), block().fixed('a').copy(258, 1));
        packs("a run of 260", Bytes.times('a', 260), block().fixed('a').copy(258, 1).fixed('a'));
        packs("a run of 261", Bytes.times('a', 261), block().fixed('a').copy(258, 1).fixed('a').fixed('a'));
        packs("a run of 262", Bytes.times('a', 262), block().fixed('a').copy(258, 1).copy(3, 1));
        packs("a run of 517", Bytes.times('a', 517), block().fixed('a').copy(258, 1).copy(258, 1));
        packs("a run of 518", Bytes.times('a', 518), block().fixed('a').copy(258, 1).copy(258, 1).fixed('a'));
    }

    private static void upTo258InAFarCopy() {
        byte[] part = Bytes.unlike(0, 300);
        for (int many : new int[] {256, 257, 258, 259, 260, 261, 300}) {
            byte[] content = Bytes.join(part, Bytes.of(200), Arrays.copyOf(part, many));
            Bits due = block().literals(part).fixed(200).copy(Math.min(many, 258), 301);
            if (many > 260) {
                due.copy(many - 258, 301);
            } else if (many > 258) {
                due.literals(Arrays.copyOfRange(part, 258, many));
            }
            packs("a copy of " + many, content, due);
        }
    }

    /** "not beyond the end". */
    private static void notBeyondTheEnd() {
        packs("abcdabc", Bytes.text("abcdabc"), block().literals(Bytes.text("abcd")).copy(3, 4));
        packs("4 of a longer one", Bytes.text("abcdefgh-abcd"), block().literals(Bytes.text("abcdefgh-")).copy(4, 9));
        byte[] content = Bytes.unlike(0, 4000);
        System.arraycopy(content, 10, content, 3990, 10);
        packs("the last of 4000", content, block().literals(Arrays.copyOf(content, 3990)).copy(10, 3980));
    }

    /** "not beyond the end": what end() has cut is no more there to be alike. */
    private static void notIntoWhatWasCut() {
        FixedPress press = Bytes.withTape(Bytes.text("abcabcabcabc"));
        press.end(5);
        packsTape("cut to 5", press, Bytes.text("abcab"), block().literals(Bytes.text("abcab")));
        Bytes.load(press, Bytes.text("abcd-abcd-abcd-"));
        press.end(8);
        packsTape("cut to 8", press, Bytes.text("abcd-abc"), block().literals(Bytes.text("abcd-")).copy(3, 5));
        Bytes.load(press, Bytes.text("qrs"));
        packsTape("what was packed before", press, Bytes.text("qrs"), block().literals(Bytes.text("qrs")));
        Bytes.load(press, Bytes.text("qrs"));
        packsTape("the same again", press, Bytes.text("qrs"), block().literals(Bytes.text("qrs")));
    }

    /** "of all earlier ones": bytes of this tape, not of one that was packed before. */
    private static void notIntoWhatWasPackedBefore() {
        for (int value : new int[] {0, 1, 'q', 127, 128, 255}) {
            FixedPress press = new FixedPress();
            press.fill(1, 1, 4000);
            press.pack();
            Bytes.load(press, Bytes.times(value, 4000));
            press.pack();
            byte[] content = Bytes.join(Bytes.text("xyz"), Bytes.times(value, 10));
            Bytes.load(press, content);
            packsTape("behind 4000 times " + value, press, content,
                    block().literals(Bytes.text("xyz")).fixed(value).copy(9, 1));
        }
    }

    /** "the longest copy": however far. */
    private static void longestNotNearest() {
        packs("longer and farther", Bytes.text("abcd1abc2abcd3"),
                block().literals(Bytes.text("abcd1")).copy(3, 5).fixed('2').copy(4, 9).fixed('3'));
        packs("longer and nearer", Bytes.text("abc1abcd2abcd3"),
                block().literals(Bytes.text("abc1")).copy(3, 4).literals(Bytes.text("d2")).copy(4, 5).fixed('3'));
        byte[] part = Bytes.unlike(0, 258);
        byte[] content = Bytes.join(part, Bytes.of(200), Arrays.copyOf(part, 257), Bytes.of(201), part);
        packs("258 before 257", content,
                block().literals(part).fixed(200).copy(257, 259).fixed(201).copy(258, 517));
    }

    /** "of these the nearest". */
    private static void nearestOfTheLongest() {
        packs("of two", Bytes.text("abc1abc2abc3"),
                block().literals(Bytes.text("abc1")).copy(3, 4).fixed('2').copy(3, 4).fixed('3'));
        packs("of two, with a shorter one nearer", Bytes.text("abcd1abcd2abc3abcd4"), block()
                .literals(Bytes.text("abcd1")).copy(4, 5).fixed('2').copy(3, 5).fixed('3').copy(4, 9).fixed('4'));
        packs("all to the end", Bytes.text("abcd1abcd2abc"),
                block().literals(Bytes.text("abcd1")).copy(4, 5).fixed('2').copy(3, 5));
    }

    private static void nearestOfThoseOf258() {
        byte[] part = Bytes.unlike(0, 260);
        byte[] content = Bytes.join(part, Bytes.of(200), Arrays.copyOf(part, 258), Bytes.of(201), part);
        // The farther one has 260 alike, but no copy has more than 258.
        packs("two of 258", content, block().literals(part).fixed(200).copy(258, 261).fixed(201).copy(258, 259)
                .literals(Arrays.copyOfRange(part, 258, 260)));
    }

    /** "of all earlier ones": from the first byte of the tape to the one just before. */
    private static void allEarlierOnes() {
        byte[] content = Bytes.unlike(0, 4000);
        System.arraycopy(content, 0, content, 3997, 3);
        packs("the first of 4000", content, block().literals(Arrays.copyOf(content, 3997)).copy(3, 3997));
        packs("the one just before", Bytes.text("-zzzz"), block().literals(Bytes.text("-z")).copy(3, 1));
        // A chain of 900 places with one hash: the longest copy is at its far end.
        byte[] many = new byte[4000];
        for (int i = 0; i < 900; i++) {
            System.arraycopy(Bytes.of('a', 'b', 'c', i % 90 + 150), 0, many, 4 * i, 4);
        }
        packsLikeOracle("a long chain", many);
    }

    private static void earlierOnesInsideACopy() {
        packs("inside", Bytes.text("abcdefabcdefcde"), block().literals(Bytes.text("abcdef")).copy(6, 6).copy(3, 4));
        packs("at its last byte", Bytes.text("abcdabcdXYZ-dXYZ"),
                block().literals(Bytes.text("abcd")).copy(4, 4).literals(Bytes.text("XYZ-")).copy(4, 5));
        packs("at its first byte", Bytes.text("abcd-abcd+abcd"),
                block().literals(Bytes.text("abcd-")).copy(4, 5).fixed('+').copy(4, 5));
    }

    private static void copyIntoItself() {
        packs("by 1", Bytes.times('x', 11), block().fixed('x').copy(10, 1));
        packs("by 2", Bytes.text("xyxyxyxyx"), block().literals(Bytes.text("xy")).copy(7, 2));
        packs("by 3", Bytes.text("xyzxyzxy"), block().literals(Bytes.text("xyz")).copy(5, 3));
    }

    /** "At each byte": a copy is taken where there is one, also if a longer one begins with the next byte. */
    private static void atEachByte() {
        packs("and three are left", Bytes.text("bcdef1abc2abcdef"),
                block().literals(Bytes.text("bcdef1abc2")).copy(3, 4).copy(3, 11));
        packs("and two are left", Bytes.text("bcde1abc2abcde"),
                block().literals(Bytes.text("bcde1abc2")).copy(3, 4).literals(Bytes.text("de")));
    }

    /** Bytes from 128 on are as alike, or not, as others. */
    private static void bytesNotNumbers() {
        byte[] high = Bytes.of(255, 128, 254, 0, 255, 128, 254, 1);
        packs("high bytes", high, block().literals(Arrays.copyOf(high, 4)).copy(3, 4).fixed(1));
        byte[] other = Bytes.of(255, 128, 127, 0, 127, 128, 255, 0, 255, 0, 127);
        packs("none alike", other, block().literals(other));
    }

    /** The first and the last length of each length code, by codes of seven bits up to 114 and eight from 115. */
    private static void lengthCodes() {
        int[] lengths = {3, 4, 9, 10, 11, 12, 13, 14, 17, 18, 19, 22, 23, 26, 31, 34, 35, 42, 43, 50, 59, 66, 67, 82,
            83, 98, 99, 114, 115, 130, 131, 162, 163, 194, 195, 226, 227, 256, 257, 258};
        for (int length : lengths) {
            // The byte behind shows how many bits the copy has.
            packs("length " + length, Bytes.join(Bytes.times('n', 1 + length), Bytes.text("z")),
                    block().fixed('n').copy(length, 1).fixed('z'));
        }
        byte[] part = Bytes.unlike(0, 300);
        for (int length = 3; length <= 258; length++) {
            packs("length " + length, Bytes.join(part, Bytes.of(200), Arrays.copyOf(part, length), Bytes.of(201)),
                    block().literals(part).fixed(200).copy(length, 301).fixed(201));
        }
        packs("3 by hand", Bytes.times('n', 4), block().fixed('n').code(1, 7).code(0, 5));
        packs("114 by hand", Bytes.times('n', 115), block().fixed('n').code(23, 7).number(15, 4).code(0, 5));
        packs("115 by hand", Bytes.times('n', 116), block().fixed('n').code(0xC0, 8).number(0, 4).code(0, 5));
        packs("257 by hand", Bytes.times('n', 258), block().fixed('n').code(0xC4, 8).number(30, 5).code(0, 5));
        packs("258 by hand", Bytes.times('n', 259), block().fixed('n').code(0xC5, 8).code(0, 5));
    }

    /** The first and the last distance of each distance code. */
    private static void distanceCodes() {
        int[] lasts = {3, 4, 6, 8, 12, 16, 24, 32, 48, 64, 96, 128, 192, 256, 384, 512, 768, 1024, 1536, 2048, 3072};
        for (int last : lasts) {
            for (int distance = last; distance <= last + 1; distance++) {
                byte[] part = Bytes.unlike(0, distance);
                byte[] content = Bytes.join(part, Arrays.copyOf(part, 3), Bytes.of(200));
                packs("distance " + distance, content, block().literals(part).copy(3, distance).fixed(200));
            }
        }
        byte[] part = Bytes.unlike(0, 3073);
        packs("3072 by hand", Bytes.join(Arrays.copyOf(part, 3072), Arrays.copyOf(part, 3)),
                block().literals(Arrays.copyOf(part, 3072)).code(1, 7).code(22, 5).number(1023, 10));
        packs("3073 by hand", Bytes.join(part, Arrays.copyOf(part, 3)),
                block().literals(part).code(1, 7).code(23, 5).number(0, 10));
    }

    private static void nearestAndFarthest() {
        packs("distance 1", Bytes.times('d', 4), block().fixed('d').code(1, 7).code(0, 5));
        packs("distance 2", Bytes.text("dededez"),
                block().literals(Bytes.text("de")).code(2, 7).code(1, 5).fixed('z'));
        byte[] part = Bytes.unlike(0, 3997);
        packs("distance 3997", Bytes.join(part, Arrays.copyOf(part, 3)),
                block().literals(part).code(1, 7).code(23, 5).number(3997 - 3073, 10));
    }

    private static Bits block() {
        return Bits.withHead().block(1, 1);
    }

    private static void packs(String what, byte[] content, Bits blockWithoutEnd) {
        packsTape(what, Bytes.withTape(content), content, blockWithoutEnd);
    }

    private static void packsTape(String what, FixedPress press, byte[] content, Bits blockWithoutEnd) {
        byte[] due = blockWithoutEnd.fixed(256).sealed(content);
        // A mistake of this test's own would show here.
        CHECK.isTrue(what + ": zlib opens it", Arrays.equals(Oracle.opened(due, 4000), content));
        CHECK.equal(what, press.pack(), due.length);
        CHECK.equal(what + ": the tape is empty", press.count(0), 0);
        State.result(CHECK, what, press, due);
        // A word a call: for the longest ones these would be more calls than are promised.
        if (due.length <= 2000) {
            CHECK.bytes(what, Bytes.result(press), due);
        }
    }

    private static void packsLikeOracle(String what, byte[] content) {
        FixedPress press = Bytes.withTape(content);
        byte[] due = Oracle.packed(content);
        CHECK.equal(what, press.pack(), due.length);
        State.result(CHECK, what, press, due);
    }
}
