/**
 * Packs the bytes of a tape as zlib does, by one block of Deflate's fixed codes, and opens such
 * streams again, by whatever blocks they were packed.
 */
public final class FixedPress {
    private static final int TAPE_MOST = 4000;
    private static final int TAPE_BITS = TAPE_MOST * 8;
    private static final int RESULT_MOST = 8192;
    private static final int FEED_BYTES = 20;
    private static final int SUM_BYTES = 4;
    private static final int SUM_MODULUS = 65521;

    private static final int STORED_KIND = 0;
    private static final int FIXED_KIND = 1;
    private static final int TOLD_KIND = 2;
    private static final int LITERALS_MOST = 286;
    private static final int DISTANCES_MOST = 30;
    private static final int END_OF_BLOCK = 256;
    private static final int FIRST_LENGTH = 257;

    private static final int[] LENGTH_BASE = {
        3, 4, 5, 6, 7, 8, 9, 10, 11, 13, 15, 17, 19, 23, 27, 31,
        35, 43, 51, 59, 67, 83, 99, 115, 131, 163, 195, 227, 258
    };
    private static final int[] LENGTH_EXTRA = {
        0, 0, 0, 0, 0, 0, 0, 0, 1, 1, 1, 1, 2, 2, 2, 2,
        3, 3, 3, 3, 4, 4, 4, 4, 5, 5, 5, 5, 0
    };
    private static final int[] DISTANCE_BASE = {
        1, 2, 3, 4, 5, 7, 9, 13, 17, 25, 33, 49, 65, 97, 129, 193, 257, 385, 513, 769,
        1025, 1537, 2049, 3073, 4097, 6145, 8193, 12289, 16385, 24577
    };
    private static final int[] DISTANCE_EXTRA = {
        0, 0, 0, 0, 1, 1, 2, 2, 3, 3, 4, 4, 5, 5, 6, 6, 7, 7, 8, 8,
        9, 9, 10, 10, 11, 11, 12, 12, 13, 13
    };
    private static final int[] LENGTHS_ORDER = {
        16, 17, 18, 0, 8, 7, 9, 6, 10, 5, 11, 4, 12, 3, 13, 2, 14, 1, 15
    };
    // By the symbols 16 (the length before once more), 17 and 18 (zeros).
    private static final int[] REPEAT_BASE = {3, 3, 11};
    private static final int[] REPEAT_EXTRA = {2, 3, 7};

    private final byte[] tape;
    private int tapeLength;
    private byte[] result;
    private int resultLength;
    // A stream is opened into the spare row, so that one that fails leaves the result as it was.
    private byte[] spare;
    private final Packer packer;
    private final Opener opener;

    public FixedPress() {
        tape = new byte[TAPE_MOST];
        result = new byte[RESULT_MOST];
        spare = new byte[RESULT_MOST];
        packer = new Packer();
        opener = new Opener();
    }

    public int feed(int a, int b, int c, int d, int e) throws IndexOutOfBoundsException {
        needRoom(FEED_BYTES);
        appendInt(a);
        appendInt(b);
        appendInt(c);
        appendInt(d);
        appendInt(e);
        return tapeLength;
    }

    public int end(int n) throws IllegalArgumentException {
        needRange(n, 0, tapeLength);
        tapeLength = n;
        return n;
    }

    public int fill(int seed, int bound, int n)
            throws IllegalArgumentException, IndexOutOfBoundsException {
        needRange(bound, 1, 256);
        needRange(n, 0, TAPE_MOST);
        needRoom(n);
        int s = seed;
        for (int i = 0; i < n; i++) {
            s = s * 1103515245 + 12345;
            appendByte((s >>> 16) % bound);
        }
        return tapeLength;
    }

    public int pack() {
        resultLength = packer.write(tape, tapeLength, result);
        tapeLength = 0;
        return resultLength;
    }

    public int open(int most) throws IllegalArgumentException, UnsupportedOperationException {
        int length = tapeLength;
        // The document empties the tape "also if this throws", and names no throw that does not.
        tapeLength = 0;
        needRange(most, 0, RESULT_MOST);
        int opened = opener.read(tape, length, spare, most);
        byte[] old = result;
        result = spare;
        spare = old;
        resultLength = opened;
        return opened;
    }

    public int back() throws IndexOutOfBoundsException {
        if (resultLength > TAPE_MOST) {
            throw new IndexOutOfBoundsException("the result is longer than the tape");
        }
        System.arraycopy(result, 0, tape, 0, resultLength);
        tapeLength = resultLength;
        return tapeLength;
    }

    public int patch(int i, int v) throws IllegalArgumentException {
        needRange(i, 0, tapeLength - 1);
        int old = tape[i] & 255;
        tape[i] = (byte) v;
        return old;
    }

    public int sum() {
        return adler(result, resultLength);
    }

    public long word(int i) throws IndexOutOfBoundsException {
        if (i < 0 || i >= resultLength) {
            throw new IndexOutOfBoundsException("no byte of the result");
        }
        long answer = 0;
        for (int k = i; k < i + 8; k++) {
            answer = answer << 8 | (k < resultLength ? result[k] & 255 : 0);
        }
        return answer;
    }

    public int count(int what) throws IllegalArgumentException {
        needRange(what, 0, 1);
        return what == 0 ? tapeLength : resultLength;
    }

    private static void needRange(int number, int least, int most) {
        if (number < least || number > most) {
            throw new IllegalArgumentException("a number out of range");
        }
    }

    private void needRoom(int more) {
        if (more > TAPE_MOST - tapeLength) {
            throw new IndexOutOfBoundsException("no room on the tape");
        }
    }

    private void appendByte(int value) {
        tape[tapeLength] = (byte) value;
        tapeLength++;
    }

    private void appendInt(int value) {
        for (int shift = 24; shift >= 0; shift -= 8) {
            appendByte(value >>> shift);
        }
    }

    private static int adler(byte[] bytes, int length) {
        int low = 1;
        int high = 0;
        for (int i = 0; i < length; i++) {
            low = (low + (bytes[i] & 255)) % SUM_MODULUS;
            high = (high + low) % SUM_MODULUS;
        }
        return high << 16 | low;
    }

    /** Writes bits into a row of bytes, the lowest bit of each byte first. */
    private static final class BitWriter {
        private byte[] bytes;
        private int length;
        private int held;
        private int heldBits;

        void begin(byte[] into) {
            bytes = into;
            length = 0;
            held = 0;
            heldBits = 0;
        }

        void writeBits(int value, int bits) {
            held |= value << heldBits;
            heldBits += bits;
            for (; heldBits >= 8; heldBits -= 8) {
                // 4000 bytes of nine bits each, with head and sum, stay below the result's room.
                bytes[length] = (byte) held;
                length++;
                held >>>= 8;
            }
        }

        /** Codes, unlike numbers, stand with their highest bit first. */
        void writeCode(int code, int bits) {
            for (int shift = bits - 1; shift >= 0; shift--) {
                writeBits(code >>> shift & 1, 1);
            }
        }

        void endByte() {
            if (heldBits > 0) {
                writeBits(0, 8 - heldBits);
            }
        }

        int written() {
            return length;
        }
    }

    /**
     * Finds copies along chains of the places whose next three bytes have one hash, the nearest
     * place first: every place where three bytes are alike is on the chain.
     */
    private static final class CopyFinder {
        private static final int COPY_LEAST = 3;
        private static final int COPY_MOST = 258;
        private static final int HASHES = 4096;
        private static final int NONE = -1;

        private final int[] nearest = new int[HASHES];
        private final int[] farther = new int[TAPE_MOST];
        private byte[] bytes;
        private int length;
        private int distance;

        void begin(byte[] from, int many) {
            bytes = from;
            length = many;
            for (int i = 0; i < HASHES; i++) {
                nearest[i] = NONE;
            }
        }

        /** Answers the length of the longest copy, 0 if there is none; found() is its distance. */
        int longest(int at) {
            int most = Math.min(COPY_MOST, length - at);
            if (most < COPY_LEAST) {
                return 0;
            }
            int best = 0;
            int from = nearest[hash(at)];
            for (int tries = 0; tries < at && from != NONE && best < most; tries++) {
                int same = alike(from, at, best, most);
                if (same > best) {
                    best = same;
                    distance = at - from;
                }
                from = farther[from];
            }
            return best < COPY_LEAST ? 0 : best;
        }

        int found() {
            return distance;
        }

        void enter(int at) {
            if (length - at >= COPY_LEAST) {
                int hash = hash(at);
                farther[at] = nearest[hash];
                nearest[hash] = at;
            }
        }

        private int alike(int from, int at, int best, int most) {
            // A copy that differs here is not longer than the best one, so it is not counted.
            if (bytes[from + best] != bytes[at + best]) {
                return 0;
            }
            int same = 0;
            while (same < most && bytes[from + same] == bytes[at + same]) {
                same++;
            }
            return same;
        }

        private int hash(int at) {
            return (bytes[at] << 8 ^ bytes[at + 1] << 4 ^ bytes[at + 2]) & HASHES - 1;
        }
    }

    /** Writes a stream of one block by fixed codes. */
    private static final class Packer {
        private final BitWriter writer = new BitWriter();
        private final CopyFinder finder = new CopyFinder();

        /** Answers how many bytes it has written. */
        int write(byte[] bytes, int length, byte[] into) {
            writer.begin(into);
            writeHighFirst(0x789C, 2);
            writer.writeBits(1, 1);
            writer.writeBits(FIXED_KIND, 2);
            writeAll(bytes, length);
            writeSymbol(END_OF_BLOCK);
            writer.endByte();
            writeHighFirst(adler(bytes, length), SUM_BYTES);
            return writer.written();
        }

        private void writeAll(byte[] bytes, int length) {
            finder.begin(bytes, length);
            int next = 0;
            for (int at = 0; at < length; at++) {
                if (at == next) {
                    int copy = finder.longest(at);
                    if (copy == 0) {
                        writeSymbol(bytes[at] & 255);
                        next = at + 1;
                    } else {
                        writeCopy(copy, finder.found());
                        next = at + copy;
                    }
                }
                finder.enter(at);
            }
        }

        private void writeCopy(int length, int distance) {
            int size = lastNotAbove(LENGTH_BASE, length);
            writeSymbol(FIRST_LENGTH + size);
            writer.writeBits(length - LENGTH_BASE[size], LENGTH_EXTRA[size]);
            int reach = lastNotAbove(DISTANCE_BASE, distance);
            writer.writeCode(reach, 5);
            writer.writeBits(distance - DISTANCE_BASE[reach], DISTANCE_EXTRA[reach]);
        }

        private void writeSymbol(int symbol) {
            if (symbol < 144) {
                writer.writeCode(0x30 + symbol, 8);
            } else if (symbol < 256) {
                writer.writeCode(0x190 + symbol - 144, 9);
            } else if (symbol < 280) {
                writer.writeCode(symbol - 256, 7);
            } else {
                writer.writeCode(0xC0 + symbol - 280, 8);
            }
        }

        private void writeHighFirst(int value, int bytes) {
            for (int shift = bytes * 8 - 8; shift >= 0; shift -= 8) {
                writer.writeBits(value >>> shift & 255, 8);
            }
        }

        private static int lastNotAbove(int[] bases, int value) {
            int last = 0;
            for (int i = 1; i < bases.length && bases[i] <= value; i++) {
                last = i;
            }
            return last;
        }
    }

    /** Reads bits from a row of bytes, the lowest bit of each byte first. */
    private static final class BitReader {
        private byte[] bytes;
        private int at;
        private int limit;

        void begin(byte[] from, int length) {
            bytes = from;
            at = 0;
            limit = length * 8;
        }

        int readBit() {
            if (at >= limit) {
                throw new UnsupportedOperationException("the stream has no more bytes");
            }
            int bit = bytes[at >>> 3] >>> (at & 7) & 1;
            at++;
            return bit;
        }

        int readBits(int bits) {
            int value = 0;
            for (int i = 0; i < bits; i++) {
                value |= readBit() << i;
            }
            return value;
        }

        void skipToByte() {
            at = at + 7 & ~7;
        }

        boolean isAtLimit() {
            return at == limit;
        }
    }

    /** A set of codes, told by the length of each symbol's code. */
    private static final class CodeSet {
        private static final int BITS_MOST = 15;

        private final int[] codesOf = new int[BITS_MOST + 1];
        private final int[] placeOf = new int[BITS_MOST + 1];
        private final int[] symbols;

        CodeSet(int symbolsMost) {
            symbols = new int[symbolsMost];
        }

        /** Takes the lengths, each 0 to 15. */
        void learn(int[] lengths, int from, int many) {
            for (int bits = 0; bits <= BITS_MOST; bits++) {
                codesOf[bits] = 0;
            }
            for (int i = 0; i < many; i++) {
                codesOf[lengths[from + i]]++;
            }
            sortSymbols(lengths, from, many);
        }

        /** Whether the set is whole, or has one code alone, or none. */
        boolean isAllowed() {
            int free = 1;
            int codes = 0;
            for (int bits = 1; bits <= BITS_MOST; bits++) {
                free = free * 2 - codesOf[bits];
                codes += codesOf[bits];
                if (free < 0) {
                    return false;
                }
            }
            return free == 0 || codes <= 1;
        }

        private void sortSymbols(int[] lengths, int from, int many) {
            int place = 0;
            for (int bits = 1; bits <= BITS_MOST; bits++) {
                placeOf[bits] = place;
                place += codesOf[bits];
            }
            for (int i = 0; i < many; i++) {
                int bits = lengths[from + i];
                if (bits > 0) {
                    symbols[placeOf[bits]] = i;
                    placeOf[bits]++;
                }
            }
        }

        int readSymbol(BitReader reader) {
            int code = 0;
            int first = 0;
            int place = 0;
            for (int bits = 1; bits <= BITS_MOST; bits++) {
                code = code * 2 + reader.readBit();
                first = first * 2;
                int here = codesOf[bits];
                if (code - first < here) {
                    return symbols[place + code - first];
                }
                first += here;
                place += here;
            }
            throw new UnsupportedOperationException("a code that there is not");
        }
    }

    /** Reads the code lengths that a block tells, and makes its two sets of codes of them. */
    private static final class ToldCodes {
        private static final int REPEAT = 16;

        private final CodeSet literals = new CodeSet(LITERALS_MOST);
        private final CodeSet distances = new CodeSet(DISTANCES_MOST);
        private final CodeSet lengthCodes = new CodeSet(LENGTHS_ORDER.length);
        private final int[] lengths = new int[LITERALS_MOST + DISTANCES_MOST];

        void readSets(BitReader reader) {
            int literalsTold = reader.readBits(5) + 257;
            int distancesTold = reader.readBits(5) + 1;
            int lengthsTold = reader.readBits(4) + 4;
            if (literalsTold > LITERALS_MOST || distancesTold > DISTANCES_MOST) {
                throw new UnsupportedOperationException("more codes than there are");
            }
            readLengthCodes(reader, lengthsTold);
            readLengths(reader, literalsTold + distancesTold);
            if (lengths[END_OF_BLOCK] == 0) {
                throw new UnsupportedOperationException("no code for the end of the block");
            }
            learnAllowed(literals, 0, literalsTold);
            learnAllowed(distances, literalsTold, distancesTold);
        }

        private void readLengthCodes(BitReader reader, int told) {
            for (int i = 0; i < LENGTHS_ORDER.length; i++) {
                lengths[LENGTHS_ORDER[i]] = i < told ? reader.readBits(3) : 0;
            }
            learnAllowed(lengthCodes, 0, LENGTHS_ORDER.length);
        }

        /** The lengths of both sets stand in one row: a repeat may go from one into the other. */
        private void readLengths(BitReader reader, int all) {
            int known = 0;
            for (int steps = 0; steps < all && known < all; steps++) {
                int symbol = lengthCodes.readSymbol(reader);
                if (symbol < REPEAT) {
                    lengths[known] = symbol;
                    known++;
                } else {
                    int kind = symbol - REPEAT;
                    int times = REPEAT_BASE[kind] + reader.readBits(REPEAT_EXTRA[kind]);
                    repeatLength(symbol == REPEAT, known, times, all);
                    known += times;
                }
            }
        }

        private void repeatLength(boolean isOfOneBefore, int known, int times, int all) {
            if (isOfOneBefore && known == 0) {
                throw new UnsupportedOperationException("a repeat without a length before");
            }
            if (times > all - known) {
                throw new UnsupportedOperationException("a repeat beyond all lengths");
            }
            int length = isOfOneBefore ? lengths[known - 1] : 0;
            for (int i = known; i < known + times; i++) {
                lengths[i] = length;
            }
        }

        private void learnAllowed(CodeSet set, int from, int many) {
            set.learn(lengths, from, many);
            if (!set.isAllowed()) {
                throw new UnsupportedOperationException("a set of codes that is not whole");
            }
        }
    }

    /** Reads a stream; what is none is refused by UnsupportedOperationException. */
    private static final class Opener {
        private static final int FIXED_LITERALS = 288;
        private static final int FIXED_DISTANCES = 32;

        private final BitReader reader = new BitReader();
        private final CodeSet fixedLiterals = new CodeSet(FIXED_LITERALS);
        private final CodeSet fixedDistances = new CodeSet(FIXED_DISTANCES);
        private final ToldCodes told = new ToldCodes();
        private byte[] out;
        private int outLength;
        private int outMost;

        Opener() {
            int[] lengths = new int[FIXED_LITERALS];
            for (int i = 0; i < FIXED_LITERALS; i++) {
                lengths[i] = i < 144 ? 8 : i < 256 ? 9 : i < 280 ? 7 : 8;
            }
            fixedLiterals.learn(lengths, 0, FIXED_LITERALS);
            for (int i = 0; i < FIXED_DISTANCES; i++) {
                lengths[i] = 5;
            }
            fixedDistances.learn(lengths, 0, FIXED_DISTANCES);
        }

        /** Answers how many bytes it has written into the row, most at most. */
        int read(byte[] bytes, int length, byte[] into, int most) {
            reader.begin(bytes, length - SUM_BYTES);
            out = into;
            outLength = 0;
            outMost = most;
            readHead();
            boolean isLast = false;
            // Every block takes bits, so that the reader refuses before the counter ends.
            for (int blocks = 0; blocks < TAPE_BITS && !isLast; blocks++) {
                isLast = reader.readBit() == 1;
                readBlock(reader.readBits(2));
            }
            reader.skipToByte();
            if (!reader.isAtLimit()) {
                throw new UnsupportedOperationException("bytes between the blocks and the sum");
            }
            checkSum(bytes, length - SUM_BYTES);
            return outLength;
        }

        private void readHead() {
            int first = reader.readBits(8);
            int second = reader.readBits(8);
            boolean isMethodRight = (first & 15) == 8 && first >>> 4 <= 7;
            boolean hasDictionary = (second & 32) != 0;
            if (!isMethodRight || hasDictionary || (first * 256 + second) % 31 != 0) {
                throw new UnsupportedOperationException("not the head of a stream");
            }
        }

        private void readBlock(int kind) {
            switch (kind) {
                case STORED_KIND:
                    readStored();
                    break;
                case FIXED_KIND:
                    readCoded(fixedLiterals, fixedDistances);
                    break;
                case TOLD_KIND:
                    told.readSets(reader);
                    readCoded(told.literals, told.distances);
                    break;
                default:
                    throw new UnsupportedOperationException("a kind of block that there is not");
            }
        }

        private void readStored() {
            reader.skipToByte();
            int length = reader.readBits(16);
            if (reader.readBits(16) != (length ^ 0xFFFF)) {
                throw new UnsupportedOperationException("the two lengths do not fit");
            }
            for (int i = 0; i < length; i++) {
                put(reader.readBits(8));
            }
        }

        private void readCoded(CodeSet literals, CodeSet distances) {
            int symbol = 0;
            // Every symbol takes a bit, so that the reader refuses before the counter ends.
            for (int steps = 0; steps < TAPE_BITS && symbol != END_OF_BLOCK; steps++) {
                symbol = literals.readSymbol(reader);
                if (symbol < END_OF_BLOCK) {
                    put(symbol);
                } else if (symbol > END_OF_BLOCK) {
                    readCopy(symbol - FIRST_LENGTH, distances);
                }
            }
        }

        private void readCopy(int size, CodeSet distances) {
            if (size >= LENGTH_BASE.length) {
                throw new UnsupportedOperationException("a length that there is not");
            }
            int length = LENGTH_BASE[size] + reader.readBits(LENGTH_EXTRA[size]);
            int reach = distances.readSymbol(reader);
            if (reach >= DISTANCE_BASE.length) {
                throw new UnsupportedOperationException("a distance that there is not");
            }
            int distance = DISTANCE_BASE[reach] + reader.readBits(DISTANCE_EXTRA[reach]);
            if (distance > outLength) {
                throw new UnsupportedOperationException("a copy from before the beginning");
            }
            for (int i = 0; i < length; i++) {
                put(out[outLength - distance]);
            }
        }

        private void put(int value) {
            if (outLength >= outMost) {
                throw new UnsupportedOperationException("more bytes than asked for");
            }
            out[outLength] = (byte) value;
            outLength++;
        }

        private void checkSum(byte[] bytes, int at) {
            int due = 0;
            for (int i = at; i < at + SUM_BYTES; i++) {
                due = due << 8 | bytes[i] & 255;
            }
            if (due != adler(out, outLength)) {
                throw new UnsupportedOperationException("the sum does not fit");
            }
        }
    }
}
