import java.util.Arrays;
import java.util.zip.DataFormatException;
import java.util.zip.Deflater;
import java.util.zip.Inflater;

/** What the document asks of pack and open, by plainer or foreign ways. */
final class Oracle {
    private Oracle() {
    }

    /** PACKED, by looking at every earlier byte. */
    static byte[] packed(byte[] bytes) {
        Bits bits = Bits.withHead().block(1, 1);
        int[] codes = Bits.fixedLengths();
        int at = 0;
        while (at < bytes.length) {
            int best = 2;
            int distance = 0;
            for (int from = at - 1; from >= 0; from--) {
                int alike = alike(bytes, from, at);
                if (alike > best) {
                    best = alike;
                    distance = at - from;
                }
            }
            if (distance == 0) {
                bits.symbol(codes, bytes[at] & 255);
                at++;
            } else {
                bits.copy(best, distance);
                at += best;
            }
        }
        return bits.symbol(codes, 256).sealed(bytes);
    }

    private static int alike(byte[] bytes, int from, int at) {
        int many = 0;
        while (many < 258 && at + many < bytes.length && bytes[from + many] == bytes[at + many]) {
            many++;
        }
        return many;
    }

    /** The content of a stream, or null if it is none or has more than most bytes. */
    static byte[] opened(byte[] stream, int most) {
        Inflater inflater = new Inflater();
        inflater.setInput(stream);
        byte[] out = new byte[most + 1];
        try {
            int many = inflater.inflate(out);
            // The sum may stand unread when the room is used up.
            many += inflater.inflate(out, many, out.length - many);
            boolean isWhole = inflater.finished() && inflater.getRemaining() == 0 && many <= most;
            return isWhole ? Arrays.copyOf(out, many) : null;
        } catch (DataFormatException e) {
            return null;
        } finally {
            inflater.end();
        }
    }

    static byte[] deflated(byte[] bytes, int level, int strategy) {
        Deflater deflater = new Deflater(level);
        deflater.setStrategy(strategy);
        deflater.setInput(bytes);
        deflater.finish();
        byte[] out = new byte[2 * bytes.length + 100];
        int many = 0;
        // A change of strategy or level may use up a call that writes nothing.
        for (int calls = 0; calls < 10 && !deflater.finished(); calls++) {
            many += deflater.deflate(out, many, out.length - many);
        }
        deflater.end();
        return Arrays.copyOf(out, many);
    }
}
