/** Compares answers with those that are due, and tells every one that is not. */
final class Due {
    /** A call that is expected to throw. */
    interface Call {
        void make();
    }

    private static int asked = 0;
    private static int wrong = 0;

    private Due() {
    }

    static void is(String what, long got, long want) {
        asked++;
        if (got != want) {
            tell(what + " answered " + got + ", due is " + want);
        }
    }

    static void is(String what, boolean got, boolean want) {
        is(what, got ? 1 : 0, want ? 1 : 0);
    }

    static void isDouble(String what, double got, double want) {
        asked++;
        if (got != want) {
            tell(what + " answered " + got + ", due is " + want);
        }
    }

    static void noFunction(TypecheckStation x, String what, Call call) {
        isThrown(x, what, IndexOutOfBoundsException.class, call);
    }

    static void badArgument(TypecheckStation x, String what, Call call) {
        isThrown(x, what, IllegalArgumentException.class, call);
    }

    static void badState(TypecheckStation x, String what, Call call) {
        isThrown(x, what, IllegalStateException.class, call);
    }

    /** The very class is due: the machine's own exceptions are classes below these. */
    private static void isThrown(TypecheckStation x, String what, Class<?> want, Call call) {
        asked++;
        long before = x.digest();
        Class<?> got = null;
        try {
            call.make();
        } catch (RuntimeException e) {
            got = e.getClass();
        }
        if (got != want) {
            tell(what + " threw " + got + ", due is " + want);
        }
        if (x.digest() != before) {
            tell(what + " changed something");
        }
    }

    private static void tell(String line) {
        wrong++;
        if (wrong <= 50) {
            System.out.println(line);
        }
    }

    static void end() {
        System.out.println(asked + " answers looked at, " + wrong + " wrong");
        if (wrong != 0 || asked == 0) {
            System.exit(1);
        }
    }
}
