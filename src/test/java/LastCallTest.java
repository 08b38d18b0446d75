/** "An object is used for at most 512 calls": the 512th still answers as the first does. */
public final class LastCallTest {
    private static final int CALLS = 512;
    private static final Check CHECK = new Check();

    public static void main(String[] args) {
        lastCallOfDearOnes();
        lastCallOfRefusedOnes();
        lastCallFillsTheTape();
        CHECK.end();
    }

    /** 127 rounds of four calls, and four more: the tape is full each time, and the result is the longest at last. */
    private static void lastCallOfDearOnes() {
        FixedPress press = new FixedPress();
        int calls = 0;
        while (calls < CALLS - 4) {
            byte[] packed = Oracle.packed(made(calls, 4000));
            CHECK.equal("fill", press.fill(calls, 3, 4000), 4000);
            CHECK.equal("pack", press.pack(), packed.length);
            CHECK.equal("back", press.back(), packed.length);
            CHECK.equal("open", press.open(4000), 4000);
            calls += 4;
        }
        CHECK.equal("fill", press.fill(calls, 3, 4000), 4000);
        CHECK.equal("count", press.count(1), 4000);
        CHECK.equal("sum of what was opened", press.sum(), State.sum(made(calls - 4, 4000)));
        CHECK.equal("the 512th", press.pack(), Oracle.packed(made(calls, 4000)).length);
    }

    private static void lastCallOfRefusedOnes() {
        FixedPress press = new FixedPress();
        for (int calls = 1; calls < CALLS; calls++) {
            switch (calls % 4) {
                case 0:
                    CHECK.refuses("open", UnsupportedOperationException.class, () -> press.open(0));
                    break;
                case 1:
                    CHECK.refuses("word", IndexOutOfBoundsException.class, () -> press.word(0));
                    break;
                case 2:
                    CHECK.refuses("fill", IllegalArgumentException.class, () -> press.fill(1, 257, 1));
                    break;
                default:
                    CHECK.refuses("patch", IllegalArgumentException.class, () -> press.patch(0, 0));
                    break;
            }
        }
        CHECK.equal("the 512th", press.pack(), 8);
    }

    private static void lastCallFillsTheTape() {
        FixedPress press = new FixedPress();
        for (int calls = 1; calls < CALLS; calls++) {
            CHECK.equal("fill", press.fill(calls, 256, 7), 7 * calls);
        }
        CHECK.equal("the 512th", press.fill(1, 256, 4000 - 7 * (CALLS - 1)), 4000);
    }

    private static byte[] made(int seed, int many) {
        byte[] bytes = new byte[many];
        int s = seed;
        for (int i = 0; i < many; i++) {
            s = s * 1103515245 + 12345;
            bytes[i] = (byte) ((s >>> 16) % 3);
        }
        return bytes;
    }
}
