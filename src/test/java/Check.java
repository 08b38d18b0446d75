import java.util.Arrays;

/** Counts the answers of a test that are not as due, and ends it with exit code 1 if there was one. */
final class Check {
    private int asked;
    private int wrong;

    void equal(String what, long got, long due) {
        asked++;
        if (got != due) {
            tell(what + " answered " + got + ", due is " + due);
        }
    }

    void isTrue(String what, boolean holds) {
        asked++;
        if (!holds) {
            tell(what + " does not hold");
        }
    }

    void bytes(String what, byte[] got, byte[] due) {
        asked++;
        int differ = Arrays.mismatch(got, due);
        if (differ >= 0) {
            tell(what + ": " + got.length + " bytes, due are " + due.length + "; first other byte: " + differ);
        }
    }

    /** The call throws an exception of just this class. */
    void refuses(String what, Class<? extends RuntimeException> due, Runnable call) {
        asked++;
        try {
            call.run();
        } catch (RuntimeException e) {
            if (e.getClass() != due) {
                tell(what + " throws " + e + ", due is " + due.getSimpleName());
            }
            return;
        }
        tell(what + " throws nothing, due is " + due.getSimpleName());
    }

    void end() {
        System.out.println(asked + " answers, " + wrong + " not as due");
        if (wrong != 0 || asked == 0) {
            System.exit(1);
        }
    }

    private void tell(String text) {
        wrong++;
        if (wrong <= 50) {
            System.out.println(text);
        }
    }
}
