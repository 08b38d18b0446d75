import java.util.Arrays;
import java.util.Random;
import java.util.zip.DataFormatException;
import java.util.zip.Deflater;
import java.util.zip.Inflater;

/** Promise 6: of changed and of random blocks, open takes just those that zlib takes. */
public final class FuzzTest {
    private static final Check CHECK = new Check();
    private static final Random RANDOM = new Random(2026);
    private static int taken;

    public static void main(String[] args) {
        for (int i = 0; i < 30000; i++) {
            tryBody(changed(body()));
        }
        for (int i = 0; i < 30000; i++) {
            byte[] body = new byte[1 + RANDOM.nextInt(60)];
            RANDOM.nextBytes(body);
            tryBody(body);
        }
        CHECK.isTrue("some of them are streams: " + taken, taken > 2000);
        CHECK.end();
    }

    private static byte[] body() {
        byte[] content = new byte[RANDOM.nextInt(300)];
        int bound = 1 + RANDOM.nextInt(60);
        for (int i = 0; i < content.length; i++) {
            content[i] = (byte) (RANDOM.nextInt(3) == 0 && i > 0 ? content[RANDOM.nextInt(i)] : RANDOM.nextInt(bound));
        }
        int level = RANDOM.nextInt(10);
        byte[] stream = Oracle.deflated(content, level, RANDOM.nextBoolean() ? Deflater.HUFFMAN_ONLY : 0);
        return Arrays.copyOfRange(stream, 2, stream.length - 4);
    }

    private static byte[] changed(byte[] body) {
        for (int i = RANDOM.nextInt(3); i > 0; i--) {
            body[RANDOM.nextInt(body.length)] ^= 1 << RANDOM.nextInt(8);
        }
        return body;
    }

    private static void tryBody(byte[] body) {
        Inflater inflater = new Inflater(true);
        inflater.setInput(body);
        byte[] out = new byte[8193];
        int many = 0;
        boolean isWhole;
        try {
            many = inflater.inflate(out);
            isWhole = inflater.finished() && many <= 8192;
        } catch (DataFormatException e) {
            isWhole = false;
        }
        byte[] content = Arrays.copyOf(out, many);
        int used = isWhole ? (int) inflater.getBytesRead() : body.length;
        inflater.end();
        byte[] stream = Bits.withHead().raw(Arrays.copyOf(body, used)).sealed(content);
        if (isWhole) {
            taken++;
            FixedPress press = Bytes.withTape(stream);
            CHECK.equal("open", press.open(many), many);
            CHECK.bytes("opened", Bytes.result(press), content);
            refuses("a byte behind", Bytes.join(stream, Bytes.of(0)), 8192);
            if (many > 0) {
                refuses("one less", stream, many - 1);
            }
        } else {
            refuses("no stream", stream, 8192);
        }
    }

    private static void refuses(String what, byte[] stream, int most) {
        FixedPress press = Bytes.withTape(stream);
        CHECK.refuses(what, UnsupportedOperationException.class, () -> press.open(most));
        CHECK.equal("the tape is empty", press.count(0), 0);
    }
}
