import java.util.Arrays;
import java.util.Random;

/** Promise 5: pack. */
public final class PackTest {
    private static final Check CHECK = new Check();

    public static void main(String[] args) {
        knownStreams();
        state();
        shortOnes();
        choiceOfCopies();
        runsOfOneByte();
        distances();
        everyByte();
        made();
        CHECK.end();
    }

    /** Worked out by hand from RFC 1951. */
    private static void knownStreams() {
        packsTo("", "789c030000000001");
        packsTo("a", "789c4b040000620062");
        packsTo("abc", "789c4b4c4a0600024d0127");
        packsTo("\u00FF\u0090\u008F", "789cfb3fa11f0004af021f");
        packsTo("abcabcabc", "789c4b4c4a862000113d0373");
        packsTo("aaaaaaaaaaaaaaaaaaaaaaaaaaaaaa", "789c4bc40b00b04f0b5f");
        packsTo("abcd.abce,abcf", "789c4b4c4a4ed10312a93a40220d00255004fc");
        packsTo("abcd.abce,abcdf", "789c4b4c4a4ed10312a93a20561a002aae0560");
    }

    private static void packsTo(String text, String hex) {
        byte[] due = new byte[hex.length() / 2];
        for (int i = 0; i < due.length; i++) {
            due[i] = (byte) Integer.parseInt(hex.substring(2 * i, 2 * i + 2), 16);
        }
        FixedPress press = Bytes.withTape(Bytes.text(text));
        CHECK.equal("pack of '" + text + "'", press.pack(), due.length);
        CHECK.bytes("'" + text + "' packed", Bytes.result(press), due);
    }

    private static void state() {
        FixedPress press = Bytes.withTape(Bytes.text("one"));
        press.pack();
        CHECK.equal("the tape is empty", press.count(0), 0);
        Bytes.load(press, Bytes.text("two and more"));
        int packed = press.pack();
        CHECK.equal("count(1)", press.count(1), packed);
        CHECK.bytes("the second alone", Bytes.result(press), Oracle.packed(Bytes.text("two and more")));
        CHECK.equal("pack of none", press.pack(), 8);
    }

    private static void shortOnes() {
        for (int many = 0; many <= 7; many++) {
            for (int mask = 0; mask < 1 << many; mask++) {
                byte[] bytes = new byte[many];
                for (int i = 0; i < many; i++) {
                    bytes[i] = (byte) (mask >> i & 1);
                }
                packs("bits " + mask, bytes);
            }
        }
    }

    private static void choiceOfCopies() {
        packs("the nearest of two", Bytes.text("abcd-abce-abcf"));
        packs("the longest, not the nearest", Bytes.text("abcdef-abcd-abcdefg"));
        packs("the nearest of the longest", Bytes.text("abcdX-abcdY-abcZ-abcd"));
        packs("no copy of two", Bytes.text("ab-ab"));
        packs("a copy at the very end", Bytes.text("xyz-xyz"));
        packs("a copy into itself", Bytes.text("ababababab"));
        packs("no lazy copy", Bytes.text("bcde-abc-abcde"));
    }

    private static void runsOfOneByte() {
        for (int many : new int[] {3, 4, 5, 258, 259, 260, 261, 262, 263, 516, 517, 518, 519, 520, 3999, 4000}) {
            packs("a run of " + many, Bytes.times('a', many));
        }
        // Each length of a copy, from 3 to 258.
        for (int many = 3; many <= 258; many++) {
            byte[] part = madeBytes(many, 256, 1);
            packs("a copy of " + many, Bytes.join(part, Bytes.of(0), part, Bytes.of(1)));
        }
    }

    private static void distances() {
        Random random = new Random(5);
        for (int distance : new int[] {3, 4, 5, 6, 7, 8, 9, 12, 13, 16, 17, 24, 25, 32, 33, 48, 49, 64, 65, 96, 97,
            128, 129, 192, 193, 256, 257, 384, 385, 512, 513, 768, 769, 1024, 1025, 1536, 1537, 2048, 2049, 3072,
            3073, 3990}) {
            byte[] bytes = new byte[distance + 10];
            random.nextBytes(bytes);
            System.arraycopy(bytes, 0, bytes, distance, Math.min(distance, 10));
            packs("distance " + distance, bytes);
        }
    }

    private static void everyByte() {
        byte[] bytes = new byte[256];
        for (int i = 0; i < 256; i++) {
            bytes[i] = (byte) i;
        }
        packs("every byte", bytes);
    }

    private static void made() {
        for (int bound : new int[] {1, 2, 3, 4, 8, 16, 100, 256}) {
            for (int many : new int[] {50, 777, 4000}) {
                packs("made by " + bound, madeBytes(many, bound, many + bound));
            }
        }
    }

    private static byte[] madeBytes(int many, int bound, int seed) {
        Random random = new Random(seed);
        byte[] bytes = new byte[many];
        for (int i = 0; i < many; i++) {
            bytes[i] = (byte) random.nextInt(bound);
        }
        return bytes;
    }

    private static void packs(String what, byte[] bytes) {
        byte[] due = Oracle.packed(bytes);
        CHECK.isTrue(what + ": zlib opens it", Arrays.equals(Oracle.opened(due, 8192), bytes));
        FixedPress press = Bytes.withTape(bytes);
        CHECK.equal(what, press.pack(), due.length);
        CHECK.bytes(what, Bytes.result(press), due);
    }
}
