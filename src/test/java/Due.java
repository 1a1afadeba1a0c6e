/** Compares answers with those that are due, and tells every one that is not. */
final class Due {
    /** A call that is expected to throw. */
    interface Call {
        void make();
    }

    private static int asked = 0;
    private static int wrong = 0;
    private static String sentence = "";

    private Due() {
    }

    /** The words of the document that the answers from here on are due by. */
    static void sentence(String words) {
        sentence = words + ": ";
    }

    static void is(String what, long got, long want) {
        asked++;
        if (got != want) {
            tell(what + " answered " + got + ", due is " + want);
        }
    }

    static void is(String what, boolean got, boolean want) {
        is(what, got ? 1 : 0, want ? 1 : 0);
    }

    static void isDouble(String what, double got, double want) {
        asked++;
        if (got != want) {
            tell(what + " answered " + got + ", due is " + want);
        }
    }

    static void noFunction(TypecheckStation x, String what, Call call) {
        isThrown(x, what, IndexOutOfBoundsException.class, call);
    }

    static void badArgument(TypecheckStation x, String what, Call call) {
        isThrown(x, what, IllegalArgumentException.class, call);
    }

    static void badState(TypecheckStation x, String what, Call call) {
        isThrown(x, what, IllegalStateException.class, call);
    }

    /** The very class is due: the machine's own exceptions are classes below these. */
    private static void isThrown(TypecheckStation x, String what, Class<?> want, Call call) {
        asked++;
        String before = stateOf(x);
        Class<?> got = null;
        try {
            call.make();
        } catch (RuntimeException e) {
            got = e.getClass();
        }
        if (got != want) {
            tell(what + " threw " + got + ", due is " + want);
        }
        if (!stateOf(x).equals(before)) {
            tell(what + " changed something");
        }
    }

    /** All that the answers tell: the digest leaves out the budget, and who counted whom. */
    static String stateOf(TypecheckStation x) {
        StringBuilder state = new StringBuilder();
        int budget = x.budget(0);
        x.budget(budget);
        state.append(budget).append(' ').append(x.digest()).append(' ').append(x.meanCost());
        for (int one = -1; one < x.many(0); one++) {
            for (int other = 0; other < x.many(0); other++) {
                state.append(' ').append(x.counted(one, other));
            }
        }
        return state.toString();
    }

    private static void tell(String line) {
        wrong++;
        if (wrong <= 50) {
            System.out.println(sentence + line);
        }
    }

    static void end() {
        System.out.println(asked + " answers looked at, " + wrong + " wrong");
        if (wrong != 0 || asked == 0) {
            System.exit(1);
        }
    }
}
