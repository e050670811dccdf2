/** Compares answers with those that are due, and ends a test's program with exit code 1 if one is wrong. */
final class Expect {
    private static int wrong = 0;

    private Expect() {
    }

    static void equal(String call, long due, long got) {
        if (got != due) {
            tell(call + " answered " + got + ", due is " + due);
        }
    }

    static void same(String call, String due, String got) {
        if (!got.equals(due)) {
            tell(call + " answered " + got + ", due is " + due);
        }
    }

    static void isTrue(String what, boolean holds) {
        if (!holds) {
            tell(what + " does not hold");
        }
    }

    static void stateThrown(String call, Runnable body) {
        same(call, "IllegalStateException", thrownBy(body));
    }

    static void unsupportedThrown(String call, Runnable body) {
        same(call, "UnsupportedOperationException", thrownBy(body));
    }

    static void finish() {
        System.out.println(wrong == 0 ? "all answers are as due" : wrong + " answers are not as due");
        if (wrong != 0) {
            System.exit(1);
        }
    }

    private static String thrownBy(Runnable body) {
        try {
            body.run();
            return "nothing thrown";
        } catch (RuntimeException thrown) {
            return thrown.getClass().getSimpleName();
        }
    }

    private static void tell(String text) {
        wrong++;
        if (wrong <= 50) {
            System.out.println(text);
        }
    }
}
