/** Promises 1 to 9, and what many() and the checks tell of functions. */
public final class FunctionsTest {
    public static void main(String[] args) {
        newStation();
        functions();
        steps();
        stepRefusals();
        unsteps();
        needsAndGifts();
        faultsAndLoose();
        guesses();
        hints();
        hintsDropCallers();
        adopts();
        adoptGuessesAsTheyAre();
        types();
        stepsAt();
        ofFunctions();
        checksAreCounted();
        Due.end();
    }

    private static void newStation() {
        TypecheckStation x = new TypecheckStation();
        for (int what = 0; what <= 8; what++) {
            Due.is("new many " + what, x.many(what), 0);
        }
        for (int what = 0; what <= 7; what++) {
            Due.is("new latest " + what, x.latest(what), 0);
        }
        Due.is("new next", x.next(), Build.NONE);
        Due.is("new tollAtBest", x.tollAtBest(), 0);
        Due.isDouble("new meanCost", x.meanCost(), 0.0);
        Due.is("new migrate", x.migrate(10), 0);
        Due.is("new budget", x.budget(20), 20);
        Due.noFunction(x, "new stepAt", () -> x.stepAt(0, 0));
    }

    private static void functions() {
        TypecheckStation x = new TypecheckStation();
        for (int i = 0; i < 10; i++) {
            Due.is("function", x.function(), i);
            Due.is("functions", x.many(0), i + 1);
        }
        Due.badState(x, "an 11th function", () -> x.function());
        int[] fresh = {0, 3, 3, 0, 0, Build.NONE, 0, 3, 3, 0, 0};
        for (int what = 0; what <= 10; what++) {
            Due.is("fresh function " + what, x.ofFunction(9, what), fresh[what]);
        }
        Due.is("fresh ones can be typed", x.many(2), 10);
        Due.is("no checks", x.many(4), 0);
    }

    private static void steps() {
        int[] all = {0, 1, 2, 3, 4, 5, 6, 7, 8, 9, 20, 21, 22, 23, 24,
            40, 41, 42, 43, 44, 45, 46, 47, 48, 49};
        TypecheckStation x = Build.stationOf(10);
        for (int i = 0; i < all.length; i++) {
            int function = i % 10;
            Due.is("step", x.step(function, all[i]), i / 10 + 1);
            Due.is("step is there", x.stepAt(function, i / 10), all[i]);
            Due.is("a check a step", x.many(4), i + 1);
        }
        TypecheckStation y = Build.stationOf(1);
        Due.is("a function calls itself", y.step(0, 40), 1);
        for (int i = 2; i <= 6; i++) {
            Due.is("steps", y.step(0, 0), i);
        }
        Due.badState(y, "a 7th step", () -> y.step(0, 0));
        Due.is("a refused step is no check", y.many(4), 6);
    }

    private static void stepRefusals() {
        TypecheckStation x = Build.stationOf(2);
        int[] none = {-1, 10, 11, 19, 25, 30, 39, 42, 49, 50, 51, 100,
            Integer.MIN_VALUE, Integer.MAX_VALUE};
        for (int step : none) {
            Due.badArgument(x, "step " + step, () -> x.step(0, step));
        }
        int[] noFunctions = {-1, 2, 10, Integer.MIN_VALUE, Integer.MAX_VALUE};
        for (int function : noFunctions) {
            Due.noFunction(x, "step of " + function, () -> x.step(function, 0));
            Due.noFunction(x, "bad step of " + function, () -> x.step(function, 10));
        }
        for (int i = 0; i < 6; i++) {
            x.step(0, 0);
        }
        Due.badArgument(x, "bad step of a full one", () -> x.step(0, 42));
        Due.badState(x, "step of a full one", () -> x.step(0, 41));
    }

    private static void unsteps() {
        TypecheckStation x = Build.stationOf(1);
        x.step(0, 7);
        x.step(0, 24);
        Due.is("unstep", x.unstep(0), 24);
        Due.is("one step less", x.ofFunction(0, 0), 1);
        Due.is("unstep is a check", x.many(4), 3);
        Due.is("unstep again", x.unstep(0), 7);
        Due.badState(x, "unstep without steps", () -> x.unstep(0));
        Due.noFunction(x, "unstep of none", () -> x.unstep(1));
        Due.noFunction(x, "unstep of -1", () -> x.unstep(-1));
        Due.is("a refused unstep is no check", x.many(4), 4);
        Due.is("a step again", x.step(0, 23), 1);
        Due.is("it stands there", x.stepAt(0, 0), 23);

        TypecheckStation y = new TypecheckStation();
        Build.typed(y, Build.NUMBER, Build.TEXT, Build.SHOW);
        y.unstep(0);
        Due.is("unstep lets it be untyped", y.ofFunction(0, 3), 0);
        y.step(0, Build.SHOW);
        Due.is("a step does not type it again", y.ofFunction(0, 3), 0);
        y.type(0, true);
        y.step(0, Build.LENGTH);
        Due.is("step lets it be untyped", y.ofFunction(0, 3), 0);
    }

    /** Each step behind each type: what is a fault, what is loose, and what comes out. */
    private static void needsAndGifts() {
        int[] steps = {0, 9, 20, 21, 22, 23, 24};
        int[] needs = {0, 0, 1, 3, 0, 2, 0};
        int[] gives = {0, 0, 0, 1, 2, 2, 0};
        for (int i = 0; i < steps.length; i++) {
            for (int in = 0; in <= 3; in++) {
                TypecheckStation x = new TypecheckStation();
                Build.function(x, in, Build.ANY, steps[i]);
                boolean isLoose = needs[i] != 3 && in == 3;
                boolean isFault = needs[i] != 3 && in != 3 && in != needs[i];
                String what = "step " + steps[i] + " of type " + in;
                Due.is(what + " faults", x.ofFunction(0, 4), isFault ? 1 : 0);
                Due.is(what + " place", x.ofFunction(0, 5), isFault ? 0 : Build.NONE);
                Due.is(what + " loose", x.ofFunction(0, 6), isLoose ? 1 : 0);
                Due.is(what + " guess of in", x.ofFunction(0, 7), needs[i]);
                Due.is(what + " guess of out", x.ofFunction(0, 8), gives[i]);
                Due.is(what + " can be typed", x.many(2), isFault || isLoose ? 0 : 1);
                outNeeds(gives[i], in, steps[i]);
            }
        }
    }

    private static void outNeeds(int gift, int in, int step) {
        for (int out = 0; out <= 3; out++) {
            TypecheckStation x = new TypecheckStation();
            Build.function(x, in, Build.ANY, step);
            int before = x.ofFunction(0, 4);
            x.hint(0, in, out);
            boolean isFault = out != 3 && out != gift;
            Due.is("out " + out + " of gift " + gift, x.ofFunction(0, 4) - before, isFault ? 1 : 0);
            if (before == 0) {
                Due.is("place of out", x.ofFunction(0, 5), isFault ? 1 : Build.NONE);
            }
        }
    }

    private static void faultsAndLoose() {
        TypecheckStation x = new TypecheckStation();
        int f = Build.function(x, Build.NUMBER, Build.NUMBER,
                Build.LENGTH, Build.NOT, Build.NOT, Build.LENGTH, Build.SHOW, Build.TEST);
        Due.is("faults go on", x.ofFunction(f, 4), 5);
        Due.is("the first one", x.ofFunction(f, 5), 0);
        Due.is("no loose ones", x.ofFunction(f, 6), 0);
        int g = Build.function(x, Build.ANY, Build.ANY, Build.CALL + 1, Build.LESS);
        Due.is("a call of itself with any, then loose", x.ofFunction(g, 6), 1);
        int h = Build.function(x, Build.ANY, Build.FLAG, Build.CALL + g, Build.CALL + f);
        Due.is("loose call, fault of out", x.ofFunction(h, 6), 1);
        Due.is("fault of out", x.ofFunction(h, 4), 1);
        Due.is("place of out", x.ofFunction(h, 5), 2);
        Due.is("faults in all", x.many(3), 6);
        Due.is("none can be typed", x.many(2), 0);
        int e = Build.function(x, Build.ANY, Build.TEXT);
        Due.is("out of nothing known is loose", x.ofFunction(e, 6), 1);
        x.hint(e, Build.TEXT, Build.TEXT);
        Due.is("out as in", x.ofFunction(e, 6) + x.ofFunction(e, 4), 0);
        x.hint(e, Build.FLAG, Build.TEXT);
        Due.is("out unlike in", x.ofFunction(e, 5), 0);
        Due.is("out unlike in is one fault", x.ofFunction(e, 4), 1);
    }

    private static void guesses() {
        TypecheckStation x = new TypecheckStation();
        int f = Build.function(x, Build.TEXT, Build.FLAG, Build.LENGTH, Build.TEST);
        int g = Build.function(x, Build.NUMBER, Build.NUMBER, Build.CALL + f);
        Due.is("guess of in of a call", x.ofFunction(g, 7), Build.TEXT);
        Due.is("guess of out of a call", x.ofFunction(g, 8), Build.FLAG);
        x.hint(f, Build.ANY, Build.ANY);
        Due.is("a call that needs nothing", x.ofFunction(g, 7), Build.ANY);
        Due.is("a call that gives any", x.ofFunction(g, 8), Build.ANY);
        Due.is("first step", x.ofFunction(f, 7), Build.TEXT);
        Due.is("last step", x.ofFunction(f, 8), Build.FLAG);
        int e = Build.function(x, Build.TEXT, Build.TEXT);
        Due.is("guess of in without steps", x.ofFunction(e, 7), Build.ANY);
        Due.is("guess of out without steps", x.ofFunction(e, 8), Build.ANY);
    }

    private static void hints() {
        TypecheckStation x = Build.stationOf(2);
        for (int in = 0; in <= 3; in++) {
            for (int out = 0; out <= 3; out++) {
                Due.is("hint of an untyped one", x.hint(1, in, out), 0);
                Due.is("in", x.ofFunction(1, 1), in);
                Due.is("out", x.ofFunction(1, 2), out);
            }
        }
        int[] bad = {-1, 4, Integer.MIN_VALUE, Integer.MAX_VALUE};
        for (int hint : bad) {
            Due.badArgument(x, "in " + hint, () -> x.hint(0, hint, 0));
            Due.badArgument(x, "out " + hint, () -> x.hint(0, 0, hint));
            Due.noFunction(x, "hint of none", () -> x.hint(2, hint, hint));
        }
        Due.noFunction(x, "hint of -1", () -> x.hint(-1, 0, 0));
        Due.is("others keep theirs", x.ofFunction(0, 1), 3);
    }

    private static void hintsDropCallers() {
        TypecheckStation x = new TypecheckStation();
        int f = Build.typed(x, Build.NUMBER, Build.NUMBER, 1);
        int g = Build.typed(x, Build.NUMBER, Build.NUMBER, Build.CALL + f);
        int h = Build.typed(x, Build.NUMBER, Build.TEXT, Build.CALL + g, Build.SHOW);
        Due.is("the same hint", x.hint(f, Build.NUMBER, Build.NUMBER), 0);
        Due.is("its out is any: who calls is loose", x.hint(f, Build.NUMBER, Build.ANY), 1);
        Due.is("it stays typed", x.ofFunction(f, 3), 1);
        Due.is("who calls does not", x.ofFunction(g, 3), 0);
        Due.is("who calls that does", x.ofFunction(h, 3), 1);
        Due.is("back again", x.hint(f, Build.NUMBER, Build.NUMBER), 0);
        Due.is("untyped ones stay so", x.ofFunction(g, 3), 0);
        x.type(g, true);
        Due.is("it, and who calls", x.hint(f, Build.TEXT, Build.NUMBER), 2);
        Due.is("typed ones", x.many(1), 1);
    }

    private static void adopts() {
        TypecheckStation x = new TypecheckStation();
        int f = Build.function(x, Build.ANY, Build.ANY, Build.LENGTH, Build.TEST);
        Due.is("both", x.adopt(f), 2);
        Due.is("in", x.ofFunction(f, 1), Build.TEXT);
        Due.is("out", x.ofFunction(f, 2), Build.FLAG);
        Due.is("none again", x.adopt(f), 0);
        x.hint(f, Build.ANY, Build.NUMBER);
        Due.is("in alone", x.adopt(f), 1);
        Due.is("out is kept", x.ofFunction(f, 2), Build.NUMBER);
        x.hint(f, Build.NUMBER, Build.ANY);
        Due.is("out alone", x.adopt(f), 1);
        Due.is("in is kept", x.ofFunction(f, 1), Build.NUMBER);
        int e = Build.function(x, Build.ANY, Build.ANY);
        Due.is("without steps", x.adopt(e), 0);
        int s = Build.function(x, Build.ANY, Build.ANY, Build.SHOW);
        Due.is("what needs nothing", x.adopt(s), 1);
        Due.is("stays any", x.ofFunction(s, 1), Build.ANY);
        Due.noFunction(x, "adopt of none", () -> x.adopt(3));
        Due.noFunction(x, "adopt of -1", () -> x.adopt(-1));

        TypecheckStation y = new TypecheckStation();
        int g = Build.typed(y, Build.ANY, Build.ANY, Build.SHOW, Build.LENGTH);
        int h = Build.typed(y, Build.NUMBER, Build.ANY, Build.CALL + g);
        int i = Build.function(y, Build.ANY, Build.ANY, Build.CALL + g, Build.CALL + g);
        int k = Build.typed(y, Build.ANY, Build.ANY, Build.CALL + i);
        Due.is("adopt", y.adopt(g), 1);
        Due.is("typed ones stay", y.many(1), 3);
        y.step(i, 9);
        Due.is("the first step needs nothing", y.adopt(i), 1);
        Due.is("number comes", y.ofFunction(i, 2), Build.NUMBER);
        Due.is("both typed ones stay", y.ofFunction(h, 3) + y.ofFunction(k, 3), 2);
        int a = Build.function(y, Build.ANY, Build.ANY, Build.NOT);
        int b = Build.typed(y, Build.NUMBER, Build.ANY, Build.CALL + a);
        Due.is("now it needs a flag", y.adopt(a), 2);
        Due.is("who calls is untyped", y.ofFunction(b, 3), 0);
    }

    /** The guess of out must not see the in that the same call sets. */
    private static void adoptGuessesAsTheyAre() {
        TypecheckStation x = new TypecheckStation();
        int f = Build.function(x, Build.ANY, Build.TEXT, Build.CALL, Build.LENGTH);
        Due.is("a call of itself needs nothing yet", x.adopt(f), 0);
        x.hint(f, Build.NUMBER, Build.ANY);
        x.unstep(f);
        Due.is("it gives any yet", x.adopt(f), 0);
        x.step(f, Build.LENGTH);
        Due.is("now a number", x.adopt(f), 1);
        Due.is("it is one", x.ofFunction(f, 2), Build.NUMBER);
    }

    private static void types() {
        TypecheckStation x = new TypecheckStation();
        int f = Build.function(x, Build.NUMBER, Build.NUMBER, 1);
        int g = Build.function(x, Build.TEXT, Build.NUMBER, 1);
        int h = Build.function(x, Build.ANY, Build.NUMBER, 1);
        Due.is("was not", x.type(f, true), false);
        Due.is("is", x.ofFunction(f, 3), 1);
        Due.is("was", x.type(f, true), true);
        Due.is("one is typed", x.many(1), 1);
        Due.is("was, and is not", x.type(f, false), true);
        Due.is("was not, and is not", x.type(f, false), false);
        Due.is("none is typed", x.many(1), 0);
        Due.badState(x, "a fault", () -> x.type(g, true));
        Due.badState(x, "loose", () -> x.type(h, true));
        Due.is("not typed with a fault is fine", x.type(g, false), false);
        Due.noFunction(x, "type of none", () -> x.type(3, true));
        Due.noFunction(x, "type of none, not", () -> x.type(3, false));
        Due.noFunction(x, "type of -1", () -> x.type(-1, true));
        Due.is("those that can be", x.many(2), 1);
        x.type(f, true);
        Due.is("typed ones can be, too", x.many(2), 1);
    }

    private static void stepsAt() {
        TypecheckStation x = Build.stationOf(2);
        x.step(0, 3);
        x.step(0, 41);
        Due.is("first place", x.stepAt(0, 0), 3);
        Due.is("second place", x.stepAt(0, 1), 41);
        Due.noFunction(x, "third place", () -> x.stepAt(0, 2));
        Due.noFunction(x, "place -1", () -> x.stepAt(0, -1));
        Due.noFunction(x, "place 6", () -> x.stepAt(0, 6));
        Due.noFunction(x, "greatest place", () -> x.stepAt(0, Integer.MAX_VALUE));
        Due.noFunction(x, "empty function", () -> x.stepAt(1, 0));
        Due.noFunction(x, "no function", () -> x.stepAt(2, 0));
        Due.noFunction(x, "function -1", () -> x.stepAt(-1, 0));
        x.unstep(0);
        Due.noFunction(x, "a place that is gone", () -> x.stepAt(0, 1));
    }

    private static void ofFunctions() {
        TypecheckStation x = Build.stationOf(4);
        x.step(0, 40);
        x.step(1, 40);
        x.step(1, 40);
        x.step(2, 1);
        x.step(2, 40);
        x.step(3, 41);
        Due.is("two others call it", x.ofFunction(0, 9), 2);
        Due.is("one other calls it", x.ofFunction(1, 9), 1);
        Due.is("no other calls it", x.ofFunction(2, 9), 0);
        Due.is("steps", x.ofFunction(1, 0), 2);
        x.step(0, 43);
        Due.is("the first one calls it", x.ofFunction(3, 9), 1);
        x.unstep(0);
        x.run(3, 2, 1);
        x.run(2, 2, 1);
        Due.is("from outside, too", x.ofFunction(3, 10), 1);
        Due.is("called by another", x.ofFunction(1, 10), 1);
        Due.is("called by itself", x.ofFunction(0, 10), 10);
        Due.badArgument(x, "what 11", () -> x.ofFunction(0, 11));
        Due.badArgument(x, "what -1", () -> x.ofFunction(0, -1));
        Due.noFunction(x, "function 4", () -> x.ofFunction(4, 0));
        Due.noFunction(x, "function 4, what 11", () -> x.ofFunction(4, 11));
        Due.noFunction(x, "function -1", () -> x.ofFunction(-1, 0));
    }

    private static void checksAreCounted() {
        TypecheckStation x = Build.stationOf(4);
        x.step(0, 40);
        x.step(1, 40);
        x.step(1, 40);
        x.step(2, 40);
        x.step(3, 42);
        Due.is("steps", x.many(4), 5);
        x.hint(0, 3, 3);
        Due.is("no hint is another", x.many(4), 5);
        x.hint(0, 0, 0);
        Due.is("it, and two that call it, each once", x.many(4), 8);
        x.hint(0, 0, 1);
        Due.is("one hint is enough", x.many(4), 11);
        x.hint(0, 2, 1);
        Due.is("the other one, too", x.many(4), 14);
        x.adopt(0);
        Due.is("adopt without a change", x.many(4), 14);
        x.adopt(2);
        Due.is("adopt with one that calls", x.many(4), 16);
        x.type(0, false);
        x.many(2);
        x.untyped(0, 3, 3);
        x.migrate(10);
        x.tollAtBest();
        x.run(1, 0, 0);
        Due.is("nothing else is a check", x.many(4), 16);
        x.unstep(3);
        Due.is("unstep", x.many(4), 17);
    }
}
