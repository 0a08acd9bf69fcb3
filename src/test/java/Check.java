/** What the tests share: answers are compared, exceptions are expected, and every miss is printed. */
final class Check {
    static final Class<?> ARGUMENT = IllegalArgumentException.class;
    static final Class<?> STATE = IllegalStateException.class;
    static final Class<?> UNSUPPORTED = UnsupportedOperationException.class;
    static final Class<?> BOUNDS = IndexOutOfBoundsException.class;

    private static int wrong = 0;
    private static int checks = 0;

    private Check() {
    }

    interface Call {
        void run();
    }

    static void equal(String what, long got, long want) {
        checks++;
        if (got != want) {
            miss(what + " answered " + got + ", due is " + want);
        }
    }

    static void isTrue(String what, boolean got) {
        checks++;
        if (!got) {
            miss(what + " is false, due is true");
        }
    }

    static void isFalse(String what, boolean got) {
        isTrue("not " + what, !got);
    }

    /** The very class is wanted: a class below it is the machine's own exception. */
    static void throwing(String what, Class<?> want, Call call) {
        Class<?> got = thrownBy(call);
        checks++;
        if (got != want) {
            miss(what + " threw " + name(got) + ", due is " + name(want));
        }
    }

    static Class<?> thrownBy(Call call) {
        try {
            call.run();
            return null;
        } catch (RuntimeException e) {
            return e.getClass();
        }
    }

    /** The test that a sentence of the document has for its own: when it fails, the sentence is told. */
    static void sentence(String text, Call test) {
        int before = wrong;
        throwing("the test itself", null, test);
        if (wrong != before) {
            System.out.println("  so this does not hold: " + text);
        }
    }

    static void end() {
        System.out.println(wrong == 0 ? checks + " checks passed" : wrong + " of " + checks + " checks failed");
        if (wrong != 0) {
            System.exit(1);
        }
    }

    private static void miss(String text) {
        wrong++;
        System.out.println(text);
    }

    private static String name(Class<?> thrown) {
        return thrown == null ? "nothing" : thrown.getSimpleName();
    }
}
