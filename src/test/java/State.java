import java.util.function.Consumer;
import java.util.function.Supplier;
import java.util.zip.Adler32;

/** Asks what an object holds by few calls, since no more than 512 are promised, and compares it. */
final class State {
    private State() {
    }

    /** The result is these bytes: their number, their sum, and words at both of its ends. */
    static void result(Check check, String what, FixedPress press, byte[] due) {
        check.equal(what + ": count(1)", press.count(1), due.length);
        check.equal(what + ": sum()", press.sum(), sum(due));
        int[] places = {0, due.length / 2, due.length - 9, due.length - 8, due.length - 7, due.length - 1};
        for (int place : places) {
            if (place >= 0 && place < due.length && press.count(1) == due.length) {
                check.equal(what + ": word(" + place + ")", press.word(place), word(due, place));
            }
        }
        check.refuses(what + ": word behind the end", IndexOutOfBoundsException.class, () -> press.word(due.length));
    }

    /** The tape is these bytes. It is packed to see it, so that both tape and result are others then. */
    static void tape(Check check, String what, FixedPress press, byte[] due) {
        check.equal(what + ": count(0)", press.count(0), due.length);
        press.pack();
        result(check, what + ", the tape packed", press, Oracle.packed(due));
    }

    /** The call is refused, and then the object is as if there had been no call. */
    static void changesNothing(Check check, String what, Class<? extends RuntimeException> due,
            Supplier<FixedPress> maker, Consumer<FixedPress> call) {
        FixedPress press = maker.get();
        check.refuses(what, due, () -> call.accept(press));
        alike(check, what, press, maker.get());
    }

    /** The call is refused, and then the tape is empty and nothing else has changed. */
    static void emptiesTape(Check check, String what, Class<? extends RuntimeException> due,
            Supplier<FixedPress> maker, Consumer<FixedPress> call) {
        FixedPress press = maker.get();
        check.refuses(what, due, () -> call.accept(press));
        FixedPress emptied = maker.get();
        emptied.end(0);
        alike(check, what, press, emptied);
    }

    private static void alike(Check check, String what, FixedPress got, FixedPress due) {
        check.equal(what + ": count(0) then", got.count(0), due.count(0));
        alikeResults(check, what + ": the result then", got, due);
        check.equal(what + ": pack() then", got.pack(), due.pack());
        alikeResults(check, what + ": the tape then", got, due);
    }

    private static void alikeResults(Check check, String what, FixedPress got, FixedPress due) {
        int many = due.count(1);
        check.equal(what + ", its length", got.count(1), many);
        check.equal(what + ", its sum", got.sum(), due.sum());
        if (many > 0 && got.count(1) == many) {
            check.equal(what + ", its first word", got.word(0), due.word(0));
            check.equal(what + ", its last word", got.word(Math.max(0, many - 8)), due.word(Math.max(0, many - 8)));
        }
    }

    static int sum(byte[] bytes) {
        Adler32 adler = new Adler32();
        adler.update(bytes);
        return (int) adler.getValue();
    }

    private static long word(byte[] bytes, int at) {
        long word = 0;
        for (int i = at; i < at + 8; i++) {
            word = word << 8 | (i < bytes.length ? bytes[i] & 255 : 0);
        }
        return word;
    }
}
