/**
 * Long runs of calls, each answer compared with that of the model. The calls come from a counter
 * that is stirred, not from chance, so that every run of this test is the same.
 */
public final class ModelTest {
    private static final int STATIONS = 1500;
    private static final int CALLS = 150;
    /** With these, and what is written ahead of them, a station has had its 512 calls at most. */
    private static final int MOST_CALLS = 400;
    private static final int[] ODD = {Integer.MIN_VALUE, -1000, -2, -1, 4, 10, 11, 21, 25, 50, 1000,
        Integer.MAX_VALUE};
    private static final int[] PLAIN = {0, 1, 9, 20, 21, 22, 23, 24};

    private static long seed = 1;
    private static final int[] failures = new int[6];
    private static int typedOnes;
    private static int skippedBlames;
    private static int dropped;
    private static int migrated;

    private TypecheckStation x;
    private Model model;

    private ModelTest() {
    }

    public static void main(String[] args) {
        for (int i = 0; i < STATIONS; i++) {
            new ModelTest().compare(i);
        }
        wasWorthIt();
        Due.end();
    }

    /** Runs that never fail, or never type, would compare nothing of worth. */
    private static void wasWorthIt() {
        for (int failure = 0; failure <= 5; failure++) {
            Due.is("runs with " + failure + " came often", failures[failure] > 200, true);
        }
        Due.is("typed ones came often", typedOnes > 1000, true);
        Due.is("typed steps failed behind skipped guards", skippedBlames > 100, true);
        Due.is("typed ones were dropped", dropped > 100, true);
        Due.is("some were migrated", migrated > 100, true);
    }

    private static int below(int bound) {
        seed = seed * 6364136223846793005L + 1442695040888963407L;
        return (int) ((seed >>> 33) % bound);
    }

    private void compare(int number) {
        x = new TypecheckStation();
        model = new Model();
        int functions = 1 + below(5);
        for (int i = 0; i < functions; i++) {
            one(0);
        }
        if (number % 4 == 1) {
            writeTower();
        }
        if (number % 4 >= 2) {
            writeWhatFits();
        }
        int calls = number % 100 < 4 ? MOST_CALLS : CALLS;
        for (int i = 0; i < calls; i++) {
            one(number % 4 != 0 && below(3) == 0 ? 11 : below(26));
            if (i % 10 == 9) {
                Due.is("digest", x.digest(), model.digest());
            }
        }
    }

    /** Each calls mostly the one below it, which takes many steps, and goes deep. */
    private void writeTower() {
        int[] calm = {0, 0, 0, 1, 24, 21};
        for (int f = 0; f < model.written.size(); f++) {
            for (int i = 0; i < 6; i++) {
                int step = f == 0 || below(8) == 0 ? calm[below(i < 5 ? 5 : 6)] : 39 + f;
                both(f, below(60) == 0 ? 40 : step);
            }
        }
    }

    /** Functions that can be typed, one calling another, and a budget that often leaves guards out. */
    private void writeWhatFits() {
        int budget = below(3) == 0 ? 20 : below(4);
        x.budget(budget);
        model.budget(budget);
        for (int f = 0; f < model.written.size(); f++) {
            int type = below(4);
            int in = type;
            for (int i = below(5); i >= 0; i--) {
                int step = fittingStep(type, f);
                both(f, step);
                x.hint(f, in, 3);
                model.hint(f, in, 3);
                type = model.ofFunction(f, 8);
            }
            int out = below(3) == 0 ? below(4) : type;
            x.hint(f, in, out);
            model.hint(f, in, out);
            if (model.ofFunction(f, 4) + model.ofFunction(f, 6) == 0 && below(3) != 0) {
                x.type(f, true);
                model.type(f, true);
            }
        }
    }

    private static final int[][] FITTING = {{0, 9, 21, 22, 24}, {20, 21, 20}, {23, 21, 23}, {21, 21}};

    private int fittingStep(int type, int function) {
        for (int i = 0; function > 0 && i < 3; i++) {
            int callee = below(function);
            int in = model.ofFunction(callee, 1);
            if (in == type || in == 3) {
                return 40 + callee;
            }
        }
        return FITTING[type][below(FITTING[type].length)];
    }

    private void both(int function, int step) {
        Due.is("step " + step, x.step(function, step), model.step(function, step));
    }

    private int function() {
        int size = model.written.size();
        return below(40) == 0 ? ODD[below(ODD.length)] : below(size + (below(20) == 0 ? 1 : 0));
    }

    private int odd(int usual) {
        return below(40) == 0 ? ODD[below(ODD.length)] : usual;
    }

    private int step(int function) {
        boolean isKnown = function >= 0 && function < model.written.size();
        if (isKnown && below(2) == 0) {
            return fittingStep(model.ofFunction(function, 8), function);
        }
        boolean isCall = below(3) == 0;
        return odd(isCall ? 40 + below(model.written.size()) : PLAIN[below(PLAIN.length)]);
    }

    private int number(int type) {
        int[] near = {-1000, -999, -995, -100, -99, -10, -9, -1, 0, 1, 2, 5, 9, 10, 99, 100, 994, 999, 1000};
        int number = below(20) == 0 ? near[below(near.length)] : below(1000) - (type == 0 ? 500 : 0);
        return type == 2 && below(20) != 0 ? below(2) : number;
    }

    private int fitting(int function) {
        boolean isKnown = function >= 0 && function < model.written.size();
        if (isKnown && below(3) != 0 && model.ofFunction(function, 7) != 3) {
            return model.ofFunction(function, 7);
        }
        return odd(below(3));
    }

    private void one(int call) {
        int f = call == 0 ? 0 : function();
        int type = fitting(f);
        int a = call == 1 || call == 2 ? step(f) : odd(below(4));
        int b = odd(below(4));
        int n = number(type);
        int most = odd(below(12));
        int budget = below(2) == 0 ? below(4) : odd(below(22));
        int what = odd(below(12));
        int before = model.typed.size();
        String due = answer(call, f, type, a, b, n, most, budget, what, true);
        String got = answer(call, f, type, a, b, n, most, budget, what, false);
        String told = "call " + call + " of " + f + " " + type + " " + a + " " + b + " " + n + " "
                + most + " " + budget + " " + what + " answered " + got + ", due is " + due;
        Due.is(told, got.equals(due), true);
        note(call, due, before);
    }

    private void note(int call, String due, int before) {
        typedOnes += Math.max(0, model.typed.size() - before);
        dropped += call != 6 ? Math.max(0, before - model.typed.size()) : 0;
        migrated += call == 19 ? model.typed.size() - before : 0;
        if (call >= 11 && call <= 13 && due.length() == 1) {
            failures[due.charAt(0) - '0']++;
            Model.Run run = model.runs.get(model.runs.size() - 1);
            skippedBlames += run.isBlameOfSkipped ? 1 : 0;
        }
    }

    private String answer(int call, int f, int type, int a, int b, int n, int most, int budget,
            int what, boolean isDue) {
        try {
            return isDue ? ofModel(call, f, type, a, b, n, most, budget, what)
                    : ofStation(call, f, type, a, b, n, most, budget, what);
        } catch (RuntimeException e) {
            return e.getClass().getName();
        }
    }

    private String ofModel(int call, int f, int type, int a, int b, int n, int most, int budget,
            int what) {
        switch (call) {
            case 0: return "" + model.function();
            case 1: case 2: return "" + model.step(f, a);
            case 3: return "" + model.unstep(f);
            case 4: return "" + model.hint(f, a, b);
            case 5: return "" + model.adopt(f);
            case 6: case 7: return "" + model.type(f, n % 4 != 0);
            case 8: return "" + model.stepAt(f, a);
            case 9: return "" + model.ofFunction(f, what);
            case 10: return "" + model.budget(budget);
            case 11: case 12: case 13: return "" + model.run(f, type, n);
            case 14: return "" + model.latest(what);
            case 15: return "" + model.counted(a - 1, f);
            case 16: return "" + model.blamed(f) + " " + model.meanCost();
            case 17: return "" + model.gain(f);
            case 18: return "" + model.next();
            case 19: return "" + model.migrate(most);
            case 20: return "" + model.wouldBlame(f, type, n);
            case 21: return "" + model.wouldCost(f, type, n, budget);
            case 22: return "" + model.untyped(f, a, b);
            case 23: return "" + model.tollAtBest();
            case 24: return "" + model.many(what);
            default: return "" + model.digest();
        }
    }

    private String ofStation(int call, int f, int type, int a, int b, int n, int most, int budget,
            int what) {
        switch (call) {
            case 0: return "" + x.function();
            case 1: case 2: return "" + x.step(f, a);
            case 3: return "" + x.unstep(f);
            case 4: return "" + x.hint(f, a, b);
            case 5: return "" + x.adopt(f);
            case 6: case 7: return "" + x.type(f, n % 4 != 0);
            case 8: return "" + x.stepAt(f, a);
            case 9: return "" + x.ofFunction(f, what);
            case 10: return "" + x.budget(budget);
            case 11: case 12: case 13: return "" + x.run(f, type, n);
            case 14: return "" + x.latest(what);
            case 15: return "" + x.counted(a - 1, f);
            case 16: return "" + x.blamed(f) + " " + x.meanCost();
            case 17: return "" + x.gain(f);
            case 18: return "" + x.next();
            case 19: return "" + x.migrate(most);
            case 20: return "" + x.wouldBlame(f, type, n);
            case 21: return "" + x.wouldCost(f, type, n, budget);
            case 22: return "" + x.untyped(f, a, b);
            case 23: return "" + x.tollAtBest();
            case 24: return "" + x.many(what);
            default: return "" + x.digest();
        }
    }
}
