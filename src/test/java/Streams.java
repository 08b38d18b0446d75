/** Opens streams, right ones and wrong ones, on objects that have a result already. */
final class Streams {
    static final byte[] NONE = new byte[0];
    private static final byte[] OLD = Bytes.text("an older result, an older one");

    private Streams() {
    }

    /** An object with an older result, and with this stream as its tape. */
    static FixedPress withTape(byte[] stream) {
        FixedPress press = Bytes.withTape(OLD);
        press.pack();
        Bytes.load(press, stream);
        return press;
    }

    /** The stream is opened by just as many bytes as it has, and refused by one less. */
    static void opens(Check check, String what, byte[] stream, byte[] content) {
        FixedPress press = withTape(stream);
        check.equal(what + ": open", press.open(content.length), content.length);
        check.equal(what + ": the tape is empty", press.count(0), 0);
        State.result(check, what, press, content);
        if (content.length > 0) {
            refusesBeyond(check, what + ", one less", stream, content.length - 1);
        }
    }

    static void refuses(Check check, String what, byte[] stream) {
        refusesBeyond(check, what, stream, 8192);
    }

    /** No stream of at most so many bytes: the tape is empty then, and the older result stays. */
    static void refusesBeyond(Check check, String what, byte[] stream, int most) {
        FixedPress press = withTape(stream);
        check.refuses(what, UnsupportedOperationException.class, () -> press.open(most));
        check.equal(what + ": the tape is empty", press.count(0), 0);
        State.result(check, what + ": the older result", press, Oracle.packed(OLD));
    }
}
