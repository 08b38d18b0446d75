import java.util.Arrays;
import java.util.Random;

/** All promises: runs of 512 calls, each answer beside that of a plain model. */
public final class RandomRunsTest {
    private static final Check CHECK = new Check();
    private static final String[] NAMES = {"feed", "end", "fill", "pack", "open", "back", "patch", "sum", "word", "count"};
    private static int opened;
    private static final int OPEN = 4;
    private static final int BACK = 5;

    public static void main(String[] args) {
        for (int seed = 0; seed < 60; seed++) {
            new RandomRunsTest(seed).run();
        }
        CHECK.isTrue("many streams were opened: " + opened, opened > 200);
        CHECK.end();
    }

    private final Random random;
    private final FixedPress press = new FixedPress();
    private byte[] tape = new byte[0];
    private byte[] result = new byte[0];

    private RandomRunsTest(int seed) {
        random = new Random(seed);
    }

    private void run() {
        int which = 0;
        for (int call = 0; call < 512; call++) {
            // A stream that comes back is opened more often than not before it is changed.
            which = which == BACK && random.nextInt(3) > 0 ? OPEN : random.nextInt(NAMES.length);
            int[] numbers = numbers(which);
            String due = model(which, numbers);
            String got;
            try {
                got = Long.toString(real(which, numbers));
            } catch (RuntimeException e) {
                got = e.getClass().getSimpleName();
            }
            String what = "call " + call + ", " + NAMES[which] + Arrays.toString(numbers);
            CHECK.isTrue(what + " answered " + got + ", due is " + due, got.equals(due));
        }
        // Not promised beyond the 512th call, but nothing in the program counts them.
        CHECK.bytes("the result", Bytes.result(press), result);
        CHECK.bytes("the tape", Bytes.tape(press), tape);
    }

    private int[] numbers(int which) {
        switch (NAMES[which]) {
            case "feed":
                return new int[] {random.nextInt(), random.nextInt(3), 0x61626361, 0x62636162, random.nextInt()};
            case "end":
                return new int[] {around(tape.length)};
            case "fill":
                return new int[] {random.nextInt(), random.nextInt(4) == 0 ? around(256) : 1 + random.nextInt(20),
                    random.nextInt(4) == 0 ? around(4000) : random.nextInt(500)};
            case "open":
                return new int[] {random.nextInt(3) == 0 ? around(8192) : 8192};
            case "patch":
                return new int[] {around(tape.length), random.nextInt()};
            case "word":
                return new int[] {around(result.length)};
            case "count":
                return new int[] {random.nextInt(4) - 1};
            default:
                return new int[0];
        }
    }

    /** Mostly 0 to the limit, sometimes just beyond. */
    private int around(int limit) {
        switch (random.nextInt(12)) {
            case 0:
                return -1;
            case 1:
                return limit + 1;
            case 2:
                return limit;
            default:
                return random.nextInt(limit + 1);
        }
    }

    private long real(int which, int[] n) {
        switch (NAMES[which]) {
            case "feed":
                return press.feed(n[0], n[1], n[2], n[3], n[4]);
            case "end":
                return press.end(n[0]);
            case "fill":
                return press.fill(n[0], n[1], n[2]);
            case "pack":
                return press.pack();
            case "open":
                return press.open(n[0]);
            case "back":
                return press.back();
            case "patch":
                return press.patch(n[0], n[1]);
            case "sum":
                return press.sum();
            case "word":
                return press.word(n[0]);
            default:
                return press.count(n[0]);
        }
    }

    private String model(int which, int[] n) {
        String range = "IllegalArgumentException";
        String bounds = "IndexOutOfBoundsException";
        switch (NAMES[which]) {
            case "feed":
                return tape.length > 3980 ? bounds : fed(n);
            case "end":
                if (n[0] < 0 || n[0] > tape.length) {
                    return range;
                }
                tape = Arrays.copyOf(tape, n[0]);
                return "" + n[0];
            case "fill":
                boolean isWrong = n[1] < 1 || n[1] > 256 || n[2] < 0 || n[2] > 4000;
                return isWrong ? range : tape.length + n[2] > 4000 ? bounds : filled(n);
            case "pack":
                result = Oracle.packed(tape);
                tape = new byte[0];
                return "" + result.length;
            case "open":
                return opened(n[0]);
            case "back":
                if (result.length > 4000) {
                    return bounds;
                }
                tape = result.clone();
                return "" + tape.length;
            case "patch":
                if (n[0] < 0 || n[0] >= tape.length) {
                    return range;
                }
                int old = tape[n[0]] & 255;
                tape[n[0]] = (byte) n[1];
                return "" + old;
            case "sum":
                java.util.zip.Adler32 adler = new java.util.zip.Adler32();
                adler.update(result);
                return "" + (int) adler.getValue();
            case "word":
                return n[0] < 0 || n[0] >= result.length ? bounds
                        : "" + java.nio.ByteBuffer.wrap(Arrays.copyOfRange(result, n[0], n[0] + 8)).getLong();
            default:
                return n[0] == 0 ? "" + tape.length : n[0] == 1 ? "" + result.length : range;
        }
    }

    private String fed(int[] n) {
        java.nio.ByteBuffer more = java.nio.ByteBuffer.allocate(20);
        for (int number : n) {
            more.putInt(number);
        }
        tape = Bytes.join(tape, more.array());
        return "" + tape.length;
    }

    private String filled(int[] n) {
        byte[] more = new byte[n[2]];
        int s = n[0];
        for (int i = 0; i < more.length; i++) {
            s = s * 1103515245 + 12345;
            more[i] = (byte) ((s >>> 16) % n[1]);
        }
        tape = Bytes.join(tape, more);
        return "" + tape.length;
    }

    private String opened(int most) {
        byte[] stream = tape;
        tape = new byte[0];
        if (most < 0 || most > 8192) {
            return "IllegalArgumentException";
        }
        byte[] content = Oracle.opened(stream, most);
        if (content == null) {
            return "UnsupportedOperationException";
        }
        result = content;
        opened++;
        return "" + content.length;
    }
}
