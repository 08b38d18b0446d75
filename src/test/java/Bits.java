import java.io.ByteArrayOutputStream;
import java.util.zip.Adler32;

/** Writes streams by hand, right ones and wrong ones: bits, codes, blocks and the sum. */
final class Bits {
    /** Lengths of a whole set for the code lengths, with a code for each of the 19 symbols. */
    static final int[] ALL_LENGTHS = {4, 4, 4, 4, 4, 4, 4, 4, 4, 4, 4, 4, 4, 5, 5, 5, 5, 5, 5};
    private static final int[] ORDER = {16, 17, 18, 0, 8, 7, 9, 6, 10, 5, 11, 4, 12, 3, 13, 2, 14, 1, 15};

    private static final int[] LENGTHS = {3, 4, 5, 6, 7, 8, 9, 10, 11, 13, 15, 17, 19, 23, 27, 31,
        35, 43, 51, 59, 67, 83, 99, 115, 131, 163, 195, 227};

    private final ByteArrayOutputStream bytes = new ByteArrayOutputStream();
    private int held;
    private int heldBits;

    static Bits withHead() {
        return new Bits().raw(0x78, 0x9C);
    }

    Bits bit(int bit) {
        held |= bit << heldBits;
        heldBits++;
        if (heldBits == 8) {
            bytes.write(held);
            held = 0;
            heldBits = 0;
        }
        return this;
    }

    Bits number(int value, int bits) {
        for (int i = 0; i < bits; i++) {
            bit(value >> i & 1);
        }
        return this;
    }

    Bits code(int value, int bits) {
        for (int i = bits - 1; i >= 0; i--) {
            bit(value >> i & 1);
        }
        return this;
    }

    Bits raw(int... values) {
        for (int value : values) {
            number(value, 8);
        }
        return this;
    }

    Bits raw(byte[] values) {
        for (byte value : values) {
            number(value & 255, 8);
        }
        return this;
    }

    /** The rest of the byte, each bit of it this one. */
    Bits rest(int bit) {
        while (heldBits > 0) {
            bit(bit);
        }
        return this;
    }

    Bits block(int last, int kind) {
        return number(last, 1).number(kind, 2);
    }

    Bits stored(int last, byte[] content) {
        return block(last, 0).rest(0).number(content.length, 16).number(~content.length & 0xFFFF, 16).raw(content);
    }

    /** The symbol's code in the set that these lengths tell. */
    Bits symbol(int[] lengths, int symbol) {
        return code(codeOf(lengths, symbol), lengths[symbol]);
    }

    Bits fixed(int symbol) {
        return symbol(fixedLengths(), symbol);
    }

    Bits fixedCopy(int symbol, int extra, int extraBits, int distance, int far, int farBits) {
        return fixed(symbol).number(extra, extraBits).code(distance, 5).number(far, farBits);
    }

    Bits literals(byte[] values) {
        for (byte value : values) {
            fixed(value & 255);
        }
        return this;
    }

    /** A copy by fixed codes, by the symbols that have the fewest extra bits. */
    Bits copy(int length, int distance) {
        if (length == 258) {
            fixed(285);
        } else {
            int i = LENGTHS.length - 1;
            while (LENGTHS[i] > length) {
                i--;
            }
            fixed(257 + i).number(length - LENGTHS[i], i < 8 ? 0 : (i - 4) / 4);
        }
        int base = 1;
        int symbol = 0;
        int extra = 0;
        while (base + (1 << extra) <= distance) {
            base += 1 << extra;
            symbol++;
            extra = symbol < 4 ? 0 : symbol / 2 - 1;
        }
        return code(symbol, 5).number(distance - base, extra);
    }

    /** What stands before the code lengths: how many there are, and the set that they are written by. */
    Bits toldHead(int literals, int distances, int[] lengthCodes) {
        number(literals - 257, 5).number(distances - 1, 5).number(19 - 4, 4);
        for (int symbol : ORDER) {
            number(lengthCodes[symbol], 3);
        }
        return this;
    }

    /** The head of a told block with each code length written by itself. */
    Bits told(int[] literals, int[] distances) {
        toldHead(literals.length, distances.length, ALL_LENGTHS);
        for (int length : literals) {
            symbol(ALL_LENGTHS, length);
        }
        for (int length : distances) {
            symbol(ALL_LENGTHS, length);
        }
        return this;
    }

    /** The stream with the right sum of this content behind it. */
    byte[] sealed(byte[] content) {
        Adler32 adler = new Adler32();
        adler.update(content);
        int sum = (int) adler.getValue();
        return rest(0).raw(sum >>> 24, sum >>> 16 & 255, sum >>> 8 & 255, sum & 255).toBytes();
    }

    byte[] toBytes() {
        return bytes.toByteArray();
    }

    static int[] fixedLengths() {
        int[] lengths = new int[288];
        for (int i = 0; i < 288; i++) {
            lengths[i] = i < 144 ? 8 : i < 256 ? 9 : i < 280 ? 7 : 8;
        }
        return lengths;
    }

    /** RFC 1951, 3.2.2: shorter codes first, then by symbol. */
    private static int codeOf(int[] lengths, int symbol) {
        int code = 0;
        for (int length = 1; length < lengths[symbol]; length++) {
            for (int other : lengths) {
                code += other == length ? 1 : 0;
            }
            code <<= 1;
        }
        for (int i = 0; i < symbol; i++) {
            code += lengths[i] == lengths[symbol] ? 1 : 0;
        }
        return code;
    }
}
