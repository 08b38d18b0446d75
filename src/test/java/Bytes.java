import java.io.ByteArrayOutputStream;

/** Brings bytes to the tape of a FixedPress and takes them from its result. */
final class Bytes {
    private Bytes() {
    }

    static byte[] of(int... values) {
        byte[] bytes = new byte[values.length];
        for (int i = 0; i < values.length; i++) {
            bytes[i] = (byte) values[i];
        }
        return bytes;
    }

    static byte[] text(String text) {
        return text.getBytes(java.nio.charset.StandardCharsets.ISO_8859_1);
    }

    static byte[] times(int value, int many) {
        byte[] bytes = new byte[many];
        java.util.Arrays.fill(bytes, (byte) value);
        return bytes;
    }

    /** Up to 4000 bytes, 90 values from this one on, of which no three stand twice: none is a copy. */
    static byte[] unlike(int least, int many) {
        byte[] bytes = new byte[many];
        for (int i = 0; i < many; i++) {
            // Forty values stand at even places and fifty others at odd ones: each pair comes once.
            bytes[i] = (byte) (least + (i % 2 == 0 ? i / 100 : 40 + i / 2 % 50));
        }
        return bytes;
    }

    static byte[] join(byte[]... parts) {
        ByteArrayOutputStream all = new ByteArrayOutputStream();
        for (byte[] part : parts) {
            all.writeBytes(part);
        }
        return all.toByteArray();
    }

    /** A new object whose tape has just these bytes. */
    static FixedPress withTape(byte[] bytes) {
        FixedPress press = new FixedPress();
        load(press, bytes);
        return press;
    }

    /** The tape has just these bytes then. */
    static void load(FixedPress press, byte[] bytes) {
        press.end(0);
        for (int at = 0; at < bytes.length; at += 20) {
            press.feed(intAt(bytes, at), intAt(bytes, at + 4), intAt(bytes, at + 8),
                    intAt(bytes, at + 12), intAt(bytes, at + 16));
        }
        press.end(bytes.length);
    }

    static byte[] result(FixedPress press) {
        byte[] bytes = new byte[press.count(1)];
        for (int at = 0; at < bytes.length; at += 8) {
            long word = press.word(at);
            for (int i = at; i < at + 8 && i < bytes.length; i++) {
                bytes[i] = (byte) (word >>> 56 - 8 * (i - at));
            }
        }
        return bytes;
    }

    /** Reads the tape by patches that put back what was there. */
    static byte[] tape(FixedPress press) {
        byte[] bytes = new byte[press.count(0)];
        for (int i = 0; i < bytes.length; i++) {
            int old = press.patch(i, 0);
            press.patch(i, old);
            bytes[i] = (byte) old;
        }
        return bytes;
    }

    private static int intAt(byte[] bytes, int at) {
        int value = 0;
        for (int i = at; i < at + 4; i++) {
            value = value << 8 | (i < bytes.length ? bytes[i] & 255 : 0);
        }
        return value;
    }
}
