/** Promises 10 to 16: runs, guards, budgets, failures, blame, cost, and what is counted. */
public final class RunsTest {
    public static void main(String[] args) {
        whatStepsMake();
        stepsThatFail();
        guardAsOneIsCalled();
        guardAsOneGives();
        noGuardForAny();
        noGuardAmongAlike();
        budgets();
        firstSkippedGuardIsBlamed();
        blameOfOutside();
        twelveInEachOther();
        twoHundredSteps();
        depthBehindCalls();
        countedCalls();
        budgetRefusals();
        runRefusals();
        latestAndManyRefusals();
        meanCosts();
        tolls();
        typableIsNotTyped();
        theTenthOne();
        Due.end();
    }

    private static void latest(TypecheckStation x, String what, int... want) {
        for (int i = 0; i < want.length; i++) {
            Due.is(what + ", latest " + i, x.latest(i), want[i]);
        }
    }

    private static void makes(int step, int type, int number, int wantType, int want) {
        TypecheckStation x = Build.stationOf(1);
        x.step(0, step);
        String what = "step " + step + " of " + type + ":" + number;
        Due.is(what, x.run(0, type, number), 0);
        latest(x, what, 0, Build.NONE, 1, 0, 0, wantType, want, 1);
    }

    private static void whatStepsMake() {
        makes(0, 0, 5, 0, 5);
        makes(9, 0, -999, 0, -990);
        makes(9, 0, 990, 0, 999);
        makes(9, 0, 991, 0, 999);
        makes(1, 0, 999, 0, 999);
        makes(Build.LESS, 0, 999, 0, 994);
        makes(Build.LESS, 0, -994, 0, -999);
        makes(Build.LESS, 0, -995, 0, -999);
        makes(Build.LESS, 0, -999, 0, -999);
        makes(Build.LENGTH, 1, 0, 0, 0);
        makes(Build.LENGTH, 1, 999, 0, 999);
        makes(Build.TEST, 0, 1, 2, 1);
        makes(Build.TEST, 0, 0, 2, 0);
        makes(Build.TEST, 0, -1, 2, 0);
        makes(Build.NOT, 2, 0, 2, 1);
        makes(Build.NOT, 2, 1, 2, 0);
        makes(Build.SHOW, 2, 1, 1, 4);
        makes(Build.SHOW, 2, 0, 1, 5);
        makes(Build.SHOW, 1, 0, 1, 0);
        makes(Build.SHOW, 1, 777, 1, 777);
        int[] numbers = {0, 9, 10, 99, 100, 999, -1, -9, -10, -99, -100, -999};
        int[] lengths = {1, 1, 2, 2, 3, 3, 2, 2, 3, 3, 4, 4};
        for (int i = 0; i < numbers.length; i++) {
            makes(Build.SHOW, 0, numbers[i], 1, lengths[i]);
        }
    }

    private static void stepsThatFail() {
        int[] steps = {0, 9, 20, 22, 23, 24};
        int[] needs = {0, 0, 1, 0, 2, 0};
        for (int i = 0; i < steps.length; i++) {
            for (int type = 0; type <= 2; type++) {
                TypecheckStation x = Build.stationOf(1);
                x.step(0, Build.SHOW);
                x.step(0, Build.LENGTH);
                x.unstep(0);
                x.unstep(0);
                x.step(0, steps[i]);
                int failure = type == needs[i] ? 0 : 1;
                Due.is("step " + steps[i] + " of type " + type, x.run(0, type, 1), failure);
                Due.is("it was begun", x.latest(2), 1);
                Due.is("who is blamed", x.latest(1), failure == 1 ? 0 : Build.NONE);
                Due.is("how often", x.blamed(0), failure);
                Due.is("runs with a failure", x.many(6), failure);
            }
        }
        TypecheckStation y = new TypecheckStation();
        int f = Build.function(y, 3, 3, Build.SHOW, Build.NOT, Build.NOT);
        int g = Build.function(y, 3, 3, Build.CALL + f, 1);
        Due.is("it fails inside", y.run(g, 0, 7), 1);
        latest(y, "inside", 1, f, 3, 0, 0, 3, 0, 2);
        Due.is("a failure is kept", y.many(6), 1);
        Due.is("the one inside is blamed", y.blamed(f), 1);
        Due.is("the one that calls is not", y.blamed(g), 0);
    }

    private static void guardAsOneIsCalled() {
        TypecheckStation x = new TypecheckStation();
        int f = Build.typed(x, Build.TEXT, Build.NUMBER, Build.LENGTH);
        int g = Build.function(x, Build.TEXT, Build.ANY, Build.CALL + f);
        Due.is("a guard holds", x.run(f, 1, 6), 0);
        latest(x, "holds", 0, Build.NONE, 3, 1, 0, 0, 6, 1);
        Due.is("outside is blamed", x.run(f, 0, 6), 2);
        latest(x, "outside", 2, Build.NONE, 2, 1, 0, 3, 0, 1);
        Due.is("one that calls is blamed", x.run(g, 2, 1), 2);
        latest(x, "caller", 2, g, 3, 1, 0, 3, 0, 2);
        Due.is("the caller", x.blamed(g), 1);
        Due.is("not the callee", x.blamed(f), 0);
        Due.is("from an untyped one", x.run(g, 1, 9), 0);
        latest(x, "untyped", 0, Build.NONE, 4, 1, 0, 0, 9, 2);
    }

    private static void guardAsOneGives() {
        TypecheckStation x = new TypecheckStation();
        int f = Build.function(x, Build.ANY, Build.FLAG);
        int g = Build.typed(x, Build.ANY, Build.FLAG, Build.CALL + f, Build.NOT);
        Due.is("a guard holds", x.run(g, 2, 0), 0);
        latest(x, "holds", 0, Build.NONE, 4, 1, 0, 2, 1, 2);
        Due.is("one that gives is blamed", x.run(g, 1, 4), 3);
        latest(x, "gives", 3, f, 3, 1, 0, 3, 0, 2);
        Due.is("the callee", x.blamed(f), 1);
        Due.is("not the caller", x.blamed(g), 0);
        Due.is("from outside nothing is asked of what it gives", x.run(f, 1, 4), 0);
        latest(x, "outside", 0, Build.NONE, 0, 0, 0, 1, 4, 1);
        x.step(g, Build.SHOW);
        x.hint(g, Build.ANY, Build.TEXT);
        x.type(g, true);
        Due.is("its own out is asked for", x.run(g, 2, 0), 0);
        latest(x, "and not that of who called", 0, Build.NONE, 5, 1, 0, 1, 4, 2);
    }

    private static void noGuardForAny() {
        TypecheckStation x = new TypecheckStation();
        int f = Build.typed(x, Build.ANY, Build.TEXT, Build.SHOW);
        int g = Build.function(x, Build.ANY, Build.ANY, Build.CALL + f);
        int h = Build.typed(x, Build.NUMBER, Build.TEXT, Build.CALL + g, Build.SHOW);
        Due.is("any in from outside", x.run(f, 2, 1), 0);
        Due.is("no guard", x.latest(3), 0);
        Due.is("any in from an untyped one", x.run(g, 2, 1), 0);
        Due.is("no guard there", x.latest(3), 0);
        Due.is("any out", x.run(h, 0, 123), 0);
        latest(x, "any out", 0, Build.NONE, 6, 1, 0, 1, 3, 3);
    }

    private static void noGuardAmongAlike() {
        TypecheckStation x = new TypecheckStation();
        int f = Build.typed(x, Build.NUMBER, Build.NUMBER, 1);
        int g = Build.typed(x, Build.NUMBER, Build.NUMBER, Build.CALL + f, Build.CALL + f);
        x.run(g, 0, 0);
        latest(x, "both typed", 0, Build.NONE, 6, 1, 0, 0, 2, 2);
        x.type(f, false);
        x.type(g, false);
        x.run(g, 0, 0);
        latest(x, "both not", 0, Build.NONE, 4, 0, 0, 0, 2, 2);
        x.type(g, true);
        x.run(g, 0, 0);
        latest(x, "as one gives", 0, Build.NONE, 10, 3, 0, 0, 2, 2);
        x.type(f, true);
        x.type(g, false);
        x.run(g, 0, 0);
        latest(x, "as one is called", 0, Build.NONE, 8, 2, 0, 0, 2, 2);
    }

    private static void budgets() {
        TypecheckStation x = new TypecheckStation();
        int f = Build.typed(x, Build.NUMBER, Build.NUMBER, 1);
        int g = Build.function(x, 3, 3, 40, 40, 40, 40, 40, 40);
        int h = Build.function(x, 3, 3, Build.CALL + g, Build.CALL + g, Build.CALL + g, Build.CALL + g);
        Due.is("budget before", x.budget(20), 20);
        Due.is("24 guards", x.run(h, 0, 0), 0);
        latest(x, "20 are looked at", 0, Build.NONE, 4 + 24 + 24 + 40, 20, 4, 0, 24, 3);
        Due.is("budget 20 before", x.budget(7), 20);
        x.run(h, 0, 0);
        latest(x, "7 are looked at", 0, Build.NONE, 52 + 14, 7, 17, 0, 24, 3);
        Due.is("budget 7 before", x.budget(0), 7);
        x.run(h, 0, 0);
        latest(x, "none is looked at", 0, Build.NONE, 52, 0, 24, 0, 24, 3);
        Due.is("budget 0 before", x.budget(1), 0);
        x.run(f, 0, 0);
        latest(x, "the budget is of each run", 0, Build.NONE, 3, 1, 0, 0, 1, 1);
        x.run(f, 0, 0);
        latest(x, "and again", 0, Build.NONE, 3, 1, 0, 0, 1, 1);
    }

    private static void firstSkippedGuardIsBlamed() {
        TypecheckStation x = new TypecheckStation();
        int f = Build.typed(x, Build.NUMBER, Build.ANY);
        int g = Build.typed(x, Build.TEXT, Build.NUMBER, Build.LENGTH);
        int h = Build.function(x, 3, 3, Build.CALL + f, Build.CALL + g);
        int i = Build.function(x, 3, 3, Build.CALL + f, Build.SHOW, Build.CALL + h, Build.CALL + g);
        x.budget(0);
        Due.is("a typed step fails", x.run(h, 2, 1), 1);
        latest(x, "the one that called", 1, h, 3, 0, 2, 3, 0, 2);
        Due.is("a failure behind guards that would have held", x.run(h, 0, 1), 1);
        latest(x, "the same", 1, h, 3, 0, 2, 3, 0, 2);
        Due.is("the first of several", x.run(i, 2, 1), 1);
        latest(x, "the outer one", 1, i, 8, 0, 4, 3, 0, 3);
        Due.is("it fails at the same step", x.run(i, 0, 1), 1);
        latest(x, "but an inner guard was the first", 1, h, 8, 0, 4, 3, 0, 3);
        x.budget(1);
        Due.is("a looked-at one fails", x.run(i, 2, 1), 2);
        Due.is("on who called", x.latest(1), i);
        x.unstep(h);
        int k = Build.function(x, 3, 3, Build.SHOW, Build.CALL + f, Build.TEST);
        x.budget(0);
        Due.is("an untyped step fails", x.run(k, 0, 1), 1);
        Due.is("it is to blame itself", x.latest(1), k);
        Due.is("blames of h", x.blamed(h), 3);
        Due.is("blames of i", x.blamed(i), 2);
        Due.is("blames of k", x.blamed(k), 1);
        Due.is("blames of typed ones", x.blamed(f) + x.blamed(g), 0);
    }

    private static void blameOfOutside() {
        TypecheckStation x = new TypecheckStation();
        int f = Build.function(x, Build.ANY, Build.NUMBER);
        int g = Build.typed(x, Build.TEXT, Build.NUMBER, Build.CALL + f, 1);
        x.budget(0);
        Due.is("outside gave a flag", x.run(g, 2, 0), 1);
        latest(x, "outside", 1, Build.NONE, 2, 0, 2, 3, 0, 2);
        Due.is("nobody's blame is kept", x.blamed(f) + x.blamed(g), 0);
        Due.is("what f gives", x.run(g, 1, 0), 1);
        latest(x, "f gives a text", 1, f, 2, 0, 2, 3, 0, 2);
        Due.is("by luck it passes", x.run(g, 0, 0), 0);
        x.budget(1);
        Due.is("the first one is looked at", x.run(g, 1, 0), 1);
        latest(x, "f again", 1, f, 4, 1, 1, 3, 0, 2);
        x.budget(2);
        Due.is("both are looked at", x.run(g, 1, 0), 3);
        latest(x, "f, at its guard", 3, f, 5, 2, 0, 3, 0, 2);
    }

    private static void twelveInEachOther() {
        TypecheckStation x = new TypecheckStation();
        for (int i = 0; i < 9; i++) {
            x.function();
        }
        for (int i = 0; i < 8; i++) {
            x.step(i, Build.CALL + i + 1);
        }
        Due.is("nine in each other", x.run(0, 1, 5), 0);
        latest(x, "nine", 0, Build.NONE, 8, 0, 0, 1, 5, 9);
        x.step(8, Build.CALL);
        Due.is("without an end", x.run(0, 1, 5), 4);
        latest(x, "thirteen", 4, Build.NONE, 12, 0, 0, 3, 0, 12);
        Due.is("the thirteenth is not counted", x.counted(2, 3), 2);
        Due.is("the twelfth is", x.counted(1, 2), 3);

        TypecheckStation y = new TypecheckStation();
        int f = Build.function(y, Build.ANY, Build.NUMBER, Build.CALL);
        int g = Build.function(y, 3, 3, 40);
        y.hint(g, Build.NUMBER, Build.ANY);
        y.type(g, true);
        Due.is("too deep goes ahead of guards", y.run(f, 1, 1), 4);
        Due.is("twelve steps", y.latest(2), 12);
        Due.is("eleven calls of itself", y.counted(f, f), 11);
        y.unstep(f);
        y.step(f, Build.CALL + g);
        y.hint(g, Build.NUMBER, Build.ANY);
        Due.is("guards ahead of depth", y.run(f, 1, 1), 2);
        Due.is("blamed", y.latest(1), f);
        Due.is("a failing guard is counted", y.counted(f, g), 1);
        guardOfTheTwelfth();
    }

    /** Nine call one another in a ring; the value becomes a text on the way round. */
    private static TypecheckStation ring(int typed) {
        TypecheckStation x = Build.stationOf(9);
        for (int i = 0; i < 8; i++) {
            x.step(i, Build.CALL + i + 1);
        }
        x.step(8, Build.SHOW);
        x.step(8, Build.CALL);
        x.hint(typed, Build.NUMBER, Build.ANY);
        x.type(typed, true);
        return x;
    }

    private static void guardOfTheTwelfth() {
        TypecheckStation x = ring(2);
        Due.is("the twelfth fails at its guard", x.run(0, 0, 1), 2);
        latest(x, "the twelfth", 2, 1, 9 + 3 + 4, 2, 0, 3, 0, 12);
        TypecheckStation y = ring(3);
        Due.is("the thirteenth does not come to it", y.run(0, 0, 1), 4);
        latest(y, "the thirteenth", 4, Build.NONE, 10 + 3 + 2, 1, 0, 3, 0, 12);
        Due.is("nor is it counted", y.counted(2, 3), 1);
    }

    /** A run of 2 takes 4 * 43 + 7 steps, of 1 it takes 42, and of 0 it takes 6. */
    private static TypecheckStation manySteps() {
        TypecheckStation x = Build.stationOf(5);
        for (int i = 0; i < 6; i++) {
            x.step(0, 0);
            x.step(1, 40);
        }
        for (int i = 0; i < 4; i++) {
            x.step(2, 41);
        }
        x.step(2, 40);
        return x;
    }

    private static void twoHundredSteps() {
        TypecheckStation x = manySteps();
        Due.is("4 * 43 + 7", x.run(2, 0, 1), 0);
        Due.is("179 steps", x.latest(2), 179);
        x.step(2, 40);
        x.step(3, 42);
        for (int i = 0; i < 5; i++) {
            x.step(3, 0);
        }
        Due.is("186 of them, and 6", x.run(3, 0, 1), 0);
        Due.is("192 steps", x.latest(2), 192);
        x.unstep(3);
        x.step(3, 40);
        Due.is("198 steps pass", x.run(3, 0, 1), 0);
        Due.is("198 steps", x.latest(2), 198);
        x.unstep(3);
        x.unstep(3);
        x.step(3, 40);
        x.step(3, 40);
        Due.is("204 would be too many", x.run(3, 0, 1), 5);
        latest(x, "too many", 5, Build.NONE, 200, 0, 0, 3, 0, 4);
        Due.is("nobody is blamed", x.blamed(0) + x.blamed(3), 0);
        exactlyTwoHundred();
    }

    private static void exactlyTwoHundred() {
        TypecheckStation x = manySteps();
        x.step(2, 40);
        x.step(3, 42);
        x.step(3, 40);
        x.step(3, 0);
        x.step(3, 0);
        x.step(3, 0);
        x.step(3, 0);
        x.step(4, 43);
        Due.is("199 steps", x.run(4, 0, 1), 0);
        Due.is("199", x.latest(2), 199);
        x.step(4, 0);
        Due.is("200 steps pass", x.run(4, 0, 1), 0);
        Due.is("200", x.latest(2), 200);
        x.step(4, 22);
        x.step(4, 0);
        Due.is("201 do not", x.run(4, 0, 1), 5);
        Due.is("that step is not begun", x.latest(2), 200);
        Due.is("ahead of a type that is wrong", x.run(4, 0, 1), 5);
        x.unstep(4);
        x.unstep(4);
        x.unstep(4);
        x.step(4, 44);
        Due.is("the 200th is a call", x.run(4, 0, 1), 5);
        Due.is("200 and no more", x.latest(2), 200);
        Due.is("it was counted", x.counted(4, 4), 1);
    }

    private static void depthBehindCalls() {
        TypecheckStation x = Build.stationOf(3);
        x.step(0, 41);
        x.step(0, 1);
        x.step(1, 42);
        Due.is("a deep one, then a flat step", x.run(0, 0, 1), 0);
        latest(x, "most in each other", 0, Build.NONE, 3, 0, 0, 0, 2, 3);
        x.run(2, 1, 8);
        latest(x, "one alone, without steps", 0, Build.NONE, 0, 0, 0, 1, 8, 1);
    }

    private static void countedCalls() {
        TypecheckStation x = Build.stationOf(3);
        x.step(0, 41);
        x.step(0, 41);
        x.step(1, 42);
        x.run(0, 0, 1);
        x.run(1, 0, 1);
        x.run(1, 0, 1);
        Due.is("outside to 0", x.counted(Build.NONE, 0), 1);
        Due.is("outside to 1", x.counted(Build.NONE, 1), 2);
        Due.is("outside to 2", x.counted(Build.NONE, 2), 0);
        Due.is("0 to 1", x.counted(0, 1), 2);
        Due.is("1 to 2", x.counted(1, 2), 4);
        Due.is("1 to 0", x.counted(1, 0), 0);
        Due.is("2 to 2", x.counted(2, 2), 0);
        Due.is("called in all", x.ofFunction(1, 10), 4);
        Due.noFunction(x, "one 3", () -> x.counted(3, 0));
        Due.noFunction(x, "one -2", () -> x.counted(-2, 0));
        Due.noFunction(x, "other -1", () -> x.counted(0, -1));
        Due.noFunction(x, "other 3", () -> x.counted(0, 3));
        Due.noFunction(x, "other 3 from outside", () -> x.counted(-1, 3));
        Due.noFunction(x, "least one", () -> x.counted(Integer.MIN_VALUE, 0));
        Due.noFunction(x, "greatest other", () -> x.counted(0, Integer.MAX_VALUE));
        Due.noFunction(x, "blamed 3", () -> x.blamed(3));
        Due.noFunction(x, "blamed -1", () -> x.blamed(-1));
    }

    private static void budgetRefusals() {
        TypecheckStation x = new TypecheckStation();
        for (int budget = 0; budget <= 20; budget++) {
            Due.is("the one before", x.budget(budget), budget == 0 ? 20 : budget - 1);
        }
        int[] bad = {-1, 21, Integer.MIN_VALUE, Integer.MAX_VALUE};
        for (int budget : bad) {
            Due.badArgument(x, "budget " + budget, () -> x.budget(budget));
        }
        Due.is("it is kept", x.budget(3), 20);
    }

    private static void runRefusals() {
        TypecheckStation x = Build.stationOf(1);
        int[][] bad = {{0, 1000}, {0, -1000}, {1, -1}, {1, 1000}, {2, -1}, {2, 2}, {3, 0}, {-1, 0},
            {4, 0}, {0, Integer.MIN_VALUE}, {1, Integer.MAX_VALUE}, {Integer.MIN_VALUE, 0}};
        for (int[] value : bad) {
            String what = value[0] + ":" + value[1];
            Due.badArgument(x, "run of " + what, () -> x.run(0, value[0], value[1]));
            Due.noFunction(x, "run of none of " + what, () -> x.run(1, value[0], value[1]));
        }
        Due.noFunction(x, "run of -1", () -> x.run(-1, 0, 0));
        int[][] good = {{0, 999}, {0, -999}, {1, 0}, {1, 999}, {2, 0}, {2, 1}};
        for (int i = 0; i < good.length; i++) {
            Due.is("run", x.run(0, good[i][0], good[i][1]), 0);
            Due.is("type", x.latest(5), good[i][0]);
            Due.is("value", x.latest(6), good[i][1]);
            Due.is("runs", x.many(5), i + 1);
        }
    }

    private static void latestAndManyRefusals() {
        TypecheckStation x = Build.stationOf(1);
        int[] bad = {-1, 9, Integer.MIN_VALUE, Integer.MAX_VALUE};
        for (int what : bad) {
            Due.badArgument(x, "many " + what, () -> x.many(what));
            Due.badArgument(x, "latest " + what, () -> x.latest(what));
        }
        Due.badArgument(x, "latest 8", () -> x.latest(8));
    }

    private static void meanCosts() {
        TypecheckStation x = new TypecheckStation();
        int f = Build.typed(x, Build.NUMBER, Build.NUMBER, 1);
        Due.isDouble("without runs", x.meanCost(), 0.0);
        x.run(f, 0, 0);
        Due.isDouble("one", x.meanCost(), 3.0);
        x.run(f, 1, 0);
        Due.isDouble("two", x.meanCost(), 2.5);
        x.run(f, 1, 0);
        Due.isDouble("three, not cut", x.meanCost(), 7.0 / 3.0);
        Due.is("all costs", x.many(7), 7);
        Due.is("all runs", x.many(5), 3);
        Due.is("all failures", x.many(6), 2);
    }

    private static void typableIsNotTyped() {
        TypecheckStation x = new TypecheckStation();
        int f = Build.function(x, Build.TEXT, Build.NUMBER, Build.LENGTH);
        Due.is("it can be typed", x.many(2), 1);
        Due.is("but is not, so no guard holds a number off", x.run(f, 0, 1), 1);
        latest(x, "it is to blame", 1, f, 1, 0, 0, 3, 0, 1);
    }

    /** The last rows of all tables. */
    private static void theTenthOne() {
        TypecheckStation x = Build.stationOf(10);
        x.step(9, Build.CALL + 9);
        x.step(9, Build.CALL);
        x.hint(0, Build.NUMBER, Build.ANY);
        x.type(0, true);
        Due.is("too deep", x.run(9, 0, 1), 4);
        Due.is("it called itself", x.counted(9, 9), 11);
        x.unstep(9);
        x.unstep(9);
        x.step(9, Build.CALL);
        Due.is("it calls the first one", x.run(9, 0, 1), 0);
        Due.is("that is counted once", x.counted(9, 0), 1);
        Due.is("and no call of the run before again", x.counted(9, 9), 11);
        Due.is("called in all", x.ofFunction(9, 10), 2 + 11);
        Due.is("the first one in all", x.ofFunction(0, 10), 1);
        Due.is("toll of the last pair", x.many(8), 2);
        Due.is("toll of outside and the first one", x.run(0, 0, 1) + x.many(8), 4);
    }

    private static void tolls() {
        TypecheckStation x = new TypecheckStation();
        int f = Build.function(x, Build.NUMBER, Build.NUMBER, 1);
        int g = Build.function(x, Build.NUMBER, Build.ANY, Build.CALL + f, Build.CALL + f);
        x.run(g, 0, 0);
        x.run(g, 0, 0);
        x.run(f, 0, 0);
        Due.is("nothing is typed", x.many(8), 0);
        x.type(f, true);
        Due.is("f is: outside, and g", x.many(8), 2 + 8);
        x.type(g, true);
        Due.is("both are: outside", x.many(8), 2 + 4);
        x.type(f, false);
        Due.is("g is: outside, and what f gives", x.many(8), 4 + 8);
        x.budget(0);
        Due.is("whatever the budget is", x.many(8), 12);
        x.type(g, false);
        x.hint(f, Build.ANY, Build.ANY);
        Due.is("none again", x.many(8), 0);
        x.run(f, 1, 0);
        x.hint(f, Build.NUMBER, Build.NUMBER);
        x.type(f, true);
        Due.is("failed runs are counted, too", x.many(8), 4 + 8);
    }
}
