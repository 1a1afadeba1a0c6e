/**
 * Each sentence of the document on an exception: at its edge, with each other exception that applies
 * at once, and on stations that are empty, half full, and full. Due compares all that a station tells
 * ahead of the call and behind it.
 */
public final class RefusalsTest {
    private static final int NONE = Build.NONE;
    private static final int NUMBER = Build.NUMBER;
    private static final int TEXT = Build.TEXT;
    private static final int FLAG = Build.FLAG;
    private static final int ANY = Build.ANY;
    private static final int LEAST = Integer.MIN_VALUE;
    private static final int GREATEST = Integer.MAX_VALUE;

    private static final int[] NO_HINTS = {-1, 4, 10, LEAST, GREATEST};
    private static final int[] NO_BUDGETS = {-1, 21, 1000, LEAST, GREATEST};
    private static final int[][] NO_VALUES = {{NUMBER, -1000}, {NUMBER, 1000}, {NUMBER, LEAST},
        {NUMBER, GREATEST}, {TEXT, -1}, {TEXT, 1000}, {TEXT, LEAST}, {TEXT, GREATEST}, {FLAG, -1},
        {FLAG, 2}, {FLAG, LEAST}, {FLAG, GREATEST}, {ANY, 0}, {-1, 0}, {4, 1}, {LEAST, 0}, {GREATEST, 1}};

    public static void main(String[] args) {
        TypecheckStation[] stations = {new TypecheckStation(), worked(1), worked(5), worked(10)};
        for (TypecheckStation x : stations) {
            noSuchFunction(x);
            noSuchFunctionAheadOfAll(x);
            noSuchFunctionOfCounted(x);
            noSuchQuestion(x);
            noSuchBudget(x);
            noSuchMost(x);
            for (int function = 0; function < x.many(0); function++) {
                noSuchStep(x, function);
                noSuchPlace(x, function);
                noSuchHint(x, function);
                noSuchValue(x, function);
                noSuchBudgetOfARun(x, function);
                noSuchQuestionOfAFunction(x, function);
                sixStepsOrNone(x, function);
                cannotBeTyped(x, function);
            }
        }
        thereAreTen();
        theyStayRefused();
        Due.end();
    }

    /** Typed and untyped ones, full and empty ones, runs with and without a failure, a budget of 2. */
    private static TypecheckStation worked(int functions) {
        TypecheckStation x = new TypecheckStation();
        Build.typed(x, NUMBER, NUMBER, 1, 2, 3, 4, 5, 6);
        for (int i = 1; i < functions; i++) {
            if (i % 4 == 1) {
                Build.function(x, ANY, ANY, Build.CALL, Build.NOT);
            } else if (i % 4 == 2) {
                Build.typed(x, NUMBER, NUMBER, Build.CALL, Build.LESS);
            } else if (i % 4 == 3) {
                Build.function(x, FLAG, TEXT);
            } else {
                Build.function(x, TEXT, NUMBER, 20, 21, 20, 21, 20, Build.CALL + i - 1);
            }
        }
        x.budget(2);
        for (int i = 0; i < functions; i++) {
            x.run(i, i % 3, 1);
            x.run(i, NUMBER, 7);
        }
        return x;
    }

    private static int[] noFunctions(TypecheckStation x) {
        int there = x.many(0);
        return new int[] {-1, -2, there, there + 1, 10, 11, 40, 49, LEAST, GREATEST};
    }

    private static void noSuchFunction(TypecheckStation x) {
        Due.sentence("Throws `IndexOutOfBoundsException` if there is no such FUNCTION");
        for (int f : noFunctions(x)) {
            Due.noFunction(x, "step of " + f, () -> x.step(f, 0));
            Due.noFunction(x, "unstep of " + f, () -> x.unstep(f));
            Due.noFunction(x, "hint of " + f, () -> x.hint(f, NUMBER, NUMBER));
            Due.noFunction(x, "adopt of " + f, () -> x.adopt(f));
            Due.noFunction(x, "type of " + f, () -> x.type(f, true));
            Due.noFunction(x, "type, not, of " + f, () -> x.type(f, false));
            Due.noFunction(x, "stepAt of " + f, () -> x.stepAt(f, 0));
            Due.noFunction(x, "ofFunction of " + f, () -> x.ofFunction(f, 0));
            Due.noFunction(x, "run of " + f, () -> x.run(f, NUMBER, 0));
            Due.noFunction(x, "blamed of " + f, () -> x.blamed(f));
            Due.noFunction(x, "gain of " + f, () -> x.gain(f));
            Due.noFunction(x, "wouldBlame of " + f, () -> x.wouldBlame(f, NUMBER, 0));
            Due.noFunction(x, "wouldCost of " + f, () -> x.wouldCost(f, NUMBER, 0, 20));
            Due.noFunction(x, "untyped of " + f, () -> x.untyped(f, NUMBER, NUMBER));
        }
    }

    private static void noSuchFunctionAheadOfAll(TypecheckStation x) {
        Due.sentence("If several exceptions apply, the one that is named first is thrown.");
        for (int f : noFunctions(x)) {
            Due.noFunction(x, "no step of " + f, () -> x.step(f, 10));
            Due.noFunction(x, "hint 4 of " + f, () -> x.hint(f, 4, -1));
            Due.noFunction(x, "place -1 of " + f, () -> x.stepAt(f, -1));
            Due.noFunction(x, "question 11 of " + f, () -> x.ofFunction(f, 11));
            Due.noFunction(x, "run of " + f + " with no value", () -> x.run(f, ANY, 1000));
            Due.noFunction(x, "wouldBlame of " + f + " with no value", () -> x.wouldBlame(f, FLAG, 2));
            Due.noFunction(x, "wouldCost of " + f + " with no value", () -> x.wouldCost(f, TEXT, -1, 20));
            Due.noFunction(x, "wouldCost of " + f + " with no budget", () -> x.wouldCost(f, TEXT, 1, 21));
            Due.noFunction(x, "untyped of " + f + " with no hint", () -> x.untyped(f, -1, 4));
        }
    }

    private static void noSuchFunctionOfCounted(TypecheckStation x) {
        Due.sentence("Throws `IndexOutOfBoundsException` if there is no such FUNCTION (but NONE for the first one)");
        for (int f : noFunctions(x)) {
            Due.noFunction(x, "counted from outside to " + f, () -> x.counted(NONE, f));
            Due.noFunction(x, "counted twice " + f, () -> x.counted(f, f));
            for (int there = 0; there < x.many(0); there++) {
                int other = there;
                Due.noFunction(x, "counted from " + other + " to " + f, () -> x.counted(other, f));
                if (f != NONE) {
                    Due.noFunction(x, "counted from " + f + " to " + other, () -> x.counted(f, other));
                }
            }
        }
    }

    private static void noSuchQuestion(TypecheckStation x) {
        for (int what : new int[] {-1, 9, 10, 11, LEAST, GREATEST}) {
            Due.sentence("Throws `IllegalArgumentException` if what is not 0 to 8");
            Due.badArgument(x, "many " + what, () -> x.many(what));
            Due.sentence("Throws `IllegalArgumentException` if what is not 0 to 7");
            Due.badArgument(x, "latest " + what, () -> x.latest(what));
        }
        Due.badArgument(x, "latest 8", () -> x.latest(8));
        Due.is("many 8 is fine", x.many(8) >= 0, true);
        Due.is("latest 7 is fine", x.latest(7) >= 0, true);
    }

    private static void noSuchBudget(TypecheckStation x) {
        Due.sentence("Throws `IllegalArgumentException` if budget is not 0 to 20");
        for (int budget : NO_BUDGETS) {
            Due.badArgument(x, "budget " + budget, () -> x.budget(budget));
        }
    }

    private static void noSuchMost(TypecheckStation x) {
        Due.sentence("Throws `IllegalArgumentException` if most is not 1 to 10");
        for (int most : new int[] {-1, 0, 11, 20, LEAST, GREATEST}) {
            Due.badArgument(x, "migrate " + most, () -> x.migrate(most));
        }
    }

    private static void noSuchStep(TypecheckStation x, int function) {
        Due.sentence("Throws `IllegalArgumentException` if it is none, or CALLS a FUNCTION that there is not");
        int there = x.many(0);
        for (int step : new int[] {-1, 10, 11, 19, 25, 26, 39, 40 + there, 50, 51, LEAST, GREATEST}) {
            Due.badArgument(x, "step " + step + " of " + function, () -> x.step(function, step));
        }
    }

    private static void noSuchPlace(TypecheckStation x, int function) {
        Due.sentence("Throws `IndexOutOfBoundsException` if there is no such FUNCTION, or place");
        int steps = x.ofFunction(function, 0);
        for (int place : new int[] {-1, steps, steps + 1, 6, 7, LEAST, GREATEST}) {
            Due.noFunction(x, "place " + place + " of " + function, () -> x.stepAt(function, place));
        }
        for (int place = 0; place < steps; place++) {
            Due.is("a step there", x.stepAt(function, place) >= 0, true);
        }
    }

    private static void noSuchHint(TypecheckStation x, int function) {
        Due.sentence("Throws `IllegalArgumentException` if one of these is not 0 to 3");
        for (int hint : NO_HINTS) {
            Due.badArgument(x, "hint, in " + hint, () -> x.hint(function, hint, ANY));
            Due.badArgument(x, "hint, out " + hint, () -> x.hint(function, TEXT, hint));
            Due.badArgument(x, "hint, both " + hint, () -> x.hint(function, hint, hint));
            Due.badArgument(x, "untyped, in " + hint, () -> x.untyped(function, hint, ANY));
            Due.badArgument(x, "untyped, out " + hint, () -> x.untyped(function, TEXT, hint));
            Due.badArgument(x, "untyped, both " + hint, () -> x.untyped(function, hint, hint));
        }
    }

    private static void noSuchValue(TypecheckStation x, int function) {
        Due.sentence("Throws `IllegalArgumentException` if type is not 0 to 2, or number is none of that TYPE");
        for (int[] value : NO_VALUES) {
            int type = value[0];
            int number = value[1];
            String told = " of " + type + ":" + number;
            Due.badArgument(x, "run" + told, () -> x.run(function, type, number));
            Due.badArgument(x, "wouldBlame" + told, () -> x.wouldBlame(function, type, number));
            Due.badArgument(x, "wouldCost" + told, () -> x.wouldCost(function, type, number, 20));
            Due.badArgument(x, "wouldCost, no budget" + told, () -> x.wouldCost(function, type, number, 21));
        }
    }

    private static void noSuchBudgetOfARun(TypecheckStation x, int function) {
        Due.sentence("Throws `IllegalArgumentException` if type is not 0 to 2, or number is none of that TYPE,"
                + " or budget is not 0 to 20");
        for (int budget : NO_BUDGETS) {
            Due.badArgument(x, "wouldCost " + budget, () -> x.wouldCost(function, NUMBER, 0, budget));
        }
        Due.is("0 is fine", x.wouldCost(function, NUMBER, 0, 0) >= 0, true);
        Due.is("20 is fine", x.wouldCost(function, NUMBER, 0, 20) >= 0, true);
    }

    private static void noSuchQuestionOfAFunction(TypecheckStation x, int function) {
        Due.sentence("Throws `IllegalArgumentException` if what is not 0 to 10");
        for (int what : new int[] {-1, 11, 12, LEAST, GREATEST}) {
            Due.badArgument(x, "what " + what, () -> x.ofFunction(function, what));
        }
        Due.is("10 is fine", x.ofFunction(function, 10) >= 0, true);
    }

    private static void sixStepsOrNone(TypecheckStation x, int function) {
        int steps = x.ofFunction(function, 0);
        if (steps == 6) {
            Due.sentence("Throws `IllegalStateException` if it has 6");
            Due.badState(x, "a seventh", () -> x.step(function, 0));
            Due.badState(x, "a seventh, a call", () -> x.step(function, Build.CALL + function));
            Due.sentence("If several exceptions apply, the one that is named first is thrown.");
            Due.badArgument(x, "a seventh that is none", () -> x.step(function, 10));
            Due.badArgument(x, "a seventh that calls none", () -> x.step(function, 40 + x.many(0)));
        }
        if (steps == 0) {
            Due.sentence("Throws `IllegalStateException` if it has none");
            Due.badState(x, "unstep", () -> x.unstep(function));
        }
    }

    private static void cannotBeTyped(TypecheckStation x, int function) {
        Due.sentence("Throws `IllegalStateException` if isTyped, and it cannot be");
        if (x.ofFunction(function, 4) + x.ofFunction(function, 6) > 0) {
            Due.badState(x, "type " + function, () -> x.type(function, true));
            Due.is("type, not, " + function, x.type(function, false), false);
        }
    }

    private static void thereAreTen() {
        Due.sentence("Throws `IllegalStateException` if there are 10");
        TypecheckStation x = worked(10);
        Due.badState(x, "an eleventh", () -> x.function());
        TypecheckStation y = worked(9);
        Due.is("a tenth", y.function(), 9);
        Due.badState(y, "an eleventh", () -> y.function());
        Due.badState(y, "an eleventh again", () -> y.function());
    }

    /** What a refused call may have left behind would show in a call that follows. */
    private static void theyStayRefused() {
        Due.sentence("A method that throws an exception changes nothing.");
        TypecheckStation x = Build.stationOf(2);
        Due.badArgument(x, "a step to one that is not there yet", () -> x.step(0, 42));
        Due.is("no step was left", x.step(0, Build.NOT), 1);
        Due.badArgument(x, "its in is fine, its out is not", () -> x.hint(0, FLAG, 4));
        Due.is("in", x.ofFunction(0, 1), ANY);
        Due.badArgument(x, "its out is fine, its in is not", () -> x.hint(0, 4, FLAG));
        Due.is("out", x.ofFunction(0, 2), ANY);
        Due.badState(x, "it cannot be typed", () -> x.type(0, true));
        x.hint(0, FLAG, FLAG);
        Due.is("it was not, though it was asked for", x.type(0, true), false);
        Due.badArgument(x, "no flag", () -> x.run(0, FLAG, 2));
        Due.is("no call was counted", x.counted(NONE, 0), 0);
        Due.badArgument(x, "no budget", () -> x.wouldCost(0, FLAG, 1, -1));
        Due.badArgument(x, "no budget either", () -> x.budget(-1));
        Due.is("20 as at first", x.budget(20), 20);
        Due.badArgument(x, "no most", () -> x.migrate(11));
        Due.is("the other one is not typed", x.ofFunction(1, 3), 0);
        Due.badArgument(x, "no hint", () -> x.untyped(0, TEXT, 4));
        Due.is("it is typed as it was", x.ofFunction(0, 3), 1);
        Due.is("one check of the step, one of the hints", x.many(4), 2);
    }
}
