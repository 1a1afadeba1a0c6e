/** Writes functions for the tests, in one line each. */
final class Build {
    static final int NONE = -1;
    static final int NUMBER = 0;
    static final int TEXT = 1;
    static final int FLAG = 2;
    static final int ANY = 3;

    static final int LENGTH = 20;
    static final int SHOW = 21;
    static final int TEST = 22;
    static final int NOT = 23;
    static final int LESS = 24;
    static final int CALL = 40;

    private Build() {
    }

    static int function(TypecheckStation x, int in, int out, int... steps) {
        int function = x.function();
        for (int step : steps) {
            x.step(function, step);
        }
        x.hint(function, in, out);
        return function;
    }

    static int typed(TypecheckStation x, int in, int out, int... steps) {
        int function = function(x, in, out, steps);
        x.type(function, true);
        return function;
    }

    static TypecheckStation stationOf(int functions) {
        TypecheckStation x = new TypecheckStation();
        for (int i = 0; i < functions; i++) {
            x.function();
        }
        return x;
    }
}
