import java.math.BigInteger;

/** Each sentence of the promises 1 to 24 that names an edge, but for the exceptions. */
public final class CallsEdgesTest {
    private static final int NONE = Build.NONE;
    private static final int NUMBER = Build.NUMBER;
    private static final int TEXT = Build.TEXT;
    private static final int FLAG = Build.FLAG;
    private static final int ANY = Build.ANY;

    public static void main(String[] args) {
        emptyStation();
        unstepGivesTheStep();
        adoptsNone();
        adoptsAsTheyAreNow();
        adoptsLikeHint();
        wasTyped();
        typeOfOneThatCannotBe();
        firstFaultOfNone();
        othersThatCallIt();
        calledFromOutside();
        manyThatCanBe();
        budgetBefore();
        withoutAFailure();
        latestAheadOfAll();
        latestWithAFailure();
        latestOfRunsAlone();
        oneWithoutACall();
        mostInEachOther();
        countedFromOutside();
        blamedHowOften();
        meanWithoutAny();
        meanIsNotCut();
        gainOfATypedOne();
        nextWithoutOne();
        migratesNotBelowZero();
        migratesOneBehindTheOther();
        migratesAtMost();
        wouldBlameNobody();
        wouldCostWithABudget();
        wouldNotBeTyped();
        tollAtBestAndNoOthers();
        digestWraps();
        digestOfOnlyThese();
        Due.end();
    }

    private static void emptyStation() {
        Due.sentence("Creates a station without FUNCTIONS.");
        TypecheckStation x = new TypecheckStation();
        Due.is("functions", x.many(0), 0);
        Due.is("can be typed", x.many(2), 0);
        Due.is("faults", x.many(3), 0);
        Due.is("toll", x.many(8), 0);
        Due.is("next", x.next(), NONE);
        Due.is("migrate 1", x.migrate(1), 0);
        Due.is("migrate 10", x.migrate(10), 0);
        Due.is("toll at best", x.tollAtBest(), 0);
        for (int function : new int[] {-1, 0, 1, 9}) {
            Due.noFunction(x, "step", () -> x.step(function, 0));
            Due.noFunction(x, "run", () -> x.run(function, 0, 0));
            Due.noFunction(x, "counted", () -> x.counted(NONE, function));
            Due.noFunction(x, "gain", () -> x.gain(function));
        }
        TypecheckStation y = new TypecheckStation();
        y.function();
        Due.is("another one is not this one", x.many(0), 0);
    }

    private static void unstepGivesTheStep() {
        Due.sentence("Takes the last STEP of a FUNCTION away.");
        int[] steps = {0, 9, 20, 24, 40, 49};
        TypecheckStation x = Build.stationOf(10);
        for (int step : steps) {
            x.step(9, step);
        }
        for (int left = 5; left >= 0; left--) {
            int place = left;
            Due.is("the step", x.unstep(9), steps[left]);
            Due.is("how many are left", x.ofFunction(9, 0), left);
            Due.noFunction(x, "it is gone", () -> x.stepAt(9, place));
        }
        Due.badState(x, "one more", () -> x.unstep(9));
        Due.is("and from the start", x.step(9, 8), 1);
    }

    private static void adoptsNone() {
        Due.sentence("Returns how many hints are others than before.");
        TypecheckStation x = Build.stationOf(2);
        Due.is("guesses that are any", x.adopt(0), 0);
        x.step(0, Build.SHOW);
        Due.is("out alone has a guess", x.adopt(0), 1);
        x.step(1, Build.TEST);
        Due.is("both have", x.adopt(1), 2);
        Due.is("none is any", x.adopt(1), 0);
        x.hint(1, ANY, TEXT);
        Due.is("in alone is any", x.adopt(1), 1);
        Due.is("the other one is kept, though it is wrong", x.ofFunction(1, 2), TEXT);
    }

    private static void adoptsAsTheyAreNow() {
        Due.sentence("Sets each hint of a FUNCTION that is ANY to its GUESS (both as they are now; like hint()).");
        TypecheckStation x = Build.stationOf(2);
        x.step(0, Build.CALL + 1);
        x.step(1, Build.TEST);
        Due.is("the other one has no hints yet", x.adopt(0), 0);
        Due.is("now it has", x.adopt(1), 2);
        Due.is("so its caller has", x.adopt(0), 2);
        Due.is("in", x.ofFunction(0, 1), NUMBER);
        Due.is("out", x.ofFunction(0, 2), FLAG);
        x.hint(1, TEXT, TEXT);
        Due.is("they are not adopted again", x.adopt(0), 0);
        TypecheckStation y = Build.stationOf(1);
        y.step(0, Build.CALL);
        y.hint(0, TEXT, ANY);
        Due.is("it gives its own out, which is any", y.adopt(0), 0);
        y.hint(0, ANY, TEXT);
        Due.is("it needs its own in, which is any", y.adopt(0), 0);
    }

    private static void adoptsLikeHint() {
        TypecheckStation x = new TypecheckStation();
        Build.typed(x, ANY, ANY);
        x.step(0, Build.SHOW);
        Due.is("a typed one", x.ofFunction(0, 3), 1);
        x.adopt(0);
        Due.is("its out is known now", x.ofFunction(0, 3), 1);
        Build.function(x, ANY, ANY, Build.NOT);
        Build.typed(x, TEXT, ANY, Build.CALL + 1);
        int checks = x.many(4);
        x.adopt(1);
        Due.is("who calls it with a text is not typed any more", x.ofFunction(2, 3), 0);
        Due.is("it, and who calls it", x.many(4), checks + 2);
        Due.is("the first one still is", x.many(1), 1);
    }

    private static void wasTyped() {
        Due.sentence("Returns whether it was.");
        TypecheckStation x = Build.stationOf(1);
        Due.is("was not, is not", x.type(0, false), false);
        Due.is("was not, is", x.type(0, true), false);
        Due.is("was, is", x.type(0, true), true);
        Due.is("was, is not", x.type(0, false), true);
    }

    private static void typeOfOneThatCannotBe() {
        Due.sentence("if isTyped, and it cannot be");
        TypecheckStation x = Build.stationOf(1);
        x.hint(0, NUMBER, TEXT);
        Due.badState(x, "it cannot be", () -> x.type(0, true));
        Due.is("not to be is fine", x.type(0, false), false);
        x.hint(0, TEXT, TEXT);
        Due.is("it can", x.type(0, true), false);
    }

    private static void firstFaultOfNone() {
        Due.sentence("5 the place of the first one (NONE)");
        TypecheckStation x = Build.stationOf(1);
        Due.is("without steps", x.ofFunction(0, 5), NONE);
        x.step(0, Build.TEST);
        Due.is("with what is loose", x.ofFunction(0, 5), NONE);
        x.hint(0, TEXT, ANY);
        Due.is("with a fault at 0", x.ofFunction(0, 5), 0);
        x.hint(0, NUMBER, ANY);
        Due.is("without it again", x.ofFunction(0, 5), NONE);
    }

    private static void othersThatCallIt() {
        Due.sentence("9 how many other FUNCTIONS have a STEP that CALLS it");
        TypecheckStation x = Build.stationOf(10);
        x.step(0, Build.CALL);
        Due.is("itself is no other", x.ofFunction(0, 9), 0);
        for (int i = 1; i < 10; i++) {
            x.step(i, Build.CALL);
            x.step(i, Build.CALL);
            Due.is("each of them once", x.ofFunction(0, 9), i);
        }
        x.unstep(9);
        Due.is("one step is enough", x.ofFunction(0, 9), 9);
        x.unstep(9);
        Due.is("none is not", x.ofFunction(0, 9), 8);
        x.step(0, Build.CALL + 9);
        Due.is("the first one calls the last one", x.ofFunction(9, 9), 1);
    }

    private static void calledFromOutside() {
        Due.sentence("10 how often it was CALLED in all RUNS (from outside, too)");
        TypecheckStation x = Build.stationOf(2);
        x.step(1, Build.CALL);
        x.step(1, Build.CALL);
        Due.is("ahead of all", x.ofFunction(0, 10), 0);
        x.run(0, FLAG, 1);
        Due.is("from outside", x.ofFunction(0, 10), 1);
        x.run(1, FLAG, 1);
        Due.is("and from the other one", x.ofFunction(0, 10), 3);
        x.unstep(1);
        Due.is("what was stays counted", x.ofFunction(0, 10), 3);
        TypecheckStation y = Build.stationOf(10);
        y.step(9, Build.CALL);
        y.run(9, FLAG, 1);
        Due.is("by the last one", y.ofFunction(0, 10), 1);
    }

    private static void manyThatCanBe() {
        Due.sentence("2 those that can be (TYPED ones, too)");
        TypecheckStation x = Build.stationOf(10);
        Due.is("all can", x.many(2), 10);
        x.migrate(10);
        Due.is("all are", x.many(2), 10);
        x.step(0, Build.NOT);
        Due.is("one cannot", x.many(2), 9);
        Due.is("nor is it", x.many(1), 9);
    }

    private static void budgetBefore() {
        Due.sentence("Returns the one before.");
        TypecheckStation x = new TypecheckStation();
        Due.is("20 at first", x.budget(0), 20);
        Due.is("0", x.budget(20), 0);
        Due.is("20", x.budget(20), 20);
        Due.badArgument(x, "21", () -> x.budget(21));
        Due.is("a refused one is none", x.budget(7), 20);
    }

    private static void withoutAFailure() {
        Due.sentence("Returns the FAILURE; 0 without one.");
        TypecheckStation x = Build.stationOf(1);
        Due.is("without steps", x.run(0, TEXT, 0), 0);
        x.step(0, Build.NOT);
        Due.is("with one", x.run(0, TEXT, 0), 1);
        Due.is("without one", x.run(0, FLAG, 0), 0);
        Due.is("failures", x.many(6), 1);
        Due.is("runs", x.many(5), 3);
    }

    private static void latestAheadOfAll() {
        Due.sentence("Returns that; 0 ahead of all RUNS.");
        TypecheckStation x = Build.stationOf(1);
        x.wouldBlame(0, TEXT, 3);
        x.wouldCost(0, TEXT, 3, 20);
        for (int what = 0; what <= 7; what++) {
            Due.is("latest " + what, x.latest(what), 0);
        }
        Due.badArgument(x, "a refused run", () -> x.run(0, FLAG, 2));
        for (int what = 0; what <= 7; what++) {
            Due.is("behind a refused run, latest " + what, x.latest(what), 0);
        }
    }

    private static void latest(TypecheckStation x, String what, int... want) {
        for (int i = 0; i < want.length; i++) {
            Due.is(what + ", latest " + i, x.latest(i), want[i]);
        }
    }

    private static void latestWithAFailure() {
        Due.sentence("5 the TYPE of what came (ANY with a FAILURE), 6 that VALUE (0 with a FAILURE)");
        TypecheckStation x = Build.stationOf(1);
        x.run(0, NUMBER, -999);
        latest(x, "without one", 0, NONE, 0, 0, 0, NUMBER, -999, 1);
        x.step(0, 0);
        x.step(0, Build.NOT);
        x.run(0, NUMBER, -999);
        latest(x, "with one", 1, 0, 2, 0, 0, ANY, 0, 1);
        x.unstep(0);
        x.run(0, NUMBER, 999);
        latest(x, "without one again", 0, NONE, 1, 0, 0, NUMBER, 999, 1);
    }

    private static void latestOfRunsAlone() {
        Due.sentence("of the latest RUN");
        TypecheckStation x = Build.stationOf(2);
        x.step(1, Build.CALL);
        x.run(1, TEXT, 9);
        x.wouldBlame(0, FLAG, 1);
        x.wouldCost(0, FLAG, 1, 0);
        x.digest();
        latest(x, "what would be is none", 0, NONE, 1, 0, 0, TEXT, 9, 2);
        Due.noFunction(x, "a refused one", () -> x.run(2, FLAG, 1));
        latest(x, "a refused one is none", 0, NONE, 1, 0, 0, TEXT, 9, 2);
        x.step(1, Build.NOT);
        x.budget(0);
        latest(x, "it stays as it was", 0, NONE, 1, 0, 0, TEXT, 9, 2);
    }

    private static void oneWithoutACall() {
        Due.sentence("7 how many FUNCTIONS were RUN in each other at most (1 without a CALL;"
                + " one that was CALLED and failed at its GUARD is among them)");
        TypecheckStation x = Build.stationOf(2);
        x.run(0, FLAG, 0);
        Due.is("without a step", x.latest(7), 1);
        x.step(0, Build.SHOW);
        x.run(0, FLAG, 0);
        Due.is("without a call", x.latest(7), 1);
        x.hint(1, TEXT, ANY);
        x.type(1, true);
        x.run(1, FLAG, 0);
        Due.is("failed at its guard from outside", x.latest(7), 1);
        x.unstep(0);
        x.step(0, Build.CALL + 1);
        x.run(0, FLAG, 0);
        Due.is("failed", x.latest(0), 2);
        Due.is("called, and failed at its guard", x.latest(7), 2);
    }

    private static void mostInEachOther() {
        TypecheckStation x = Build.stationOf(4);
        x.step(0, Build.CALL + 1);
        x.step(0, Build.CALL + 3);
        x.step(1, Build.CALL + 2);
        x.run(0, FLAG, 0);
        Due.is("the deepest, not the last one", x.latest(7), 3);
        x.step(3, Build.CALL + 1);
        x.run(0, FLAG, 0);
        Due.is("the last one is the deepest", x.latest(7), 4);
        x.step(2, Build.CALL + 2);
        x.run(0, FLAG, 0);
        Due.is("the thirteenth is not among them", x.latest(7), 12);
    }

    private static void countedFromOutside() {
        Due.sentence("a FUNCTION; NONE for outside");
        TypecheckStation x = Build.stationOf(10);
        x.step(9, Build.CALL + 9);
        x.run(9, FLAG, 0);
        x.run(0, FLAG, 0);
        Due.is("outside to the last one", x.counted(NONE, 9), 1);
        Due.is("outside to the first one", x.counted(NONE, 0), 1);
        Due.is("the last one to itself", x.counted(9, 9), 11);
        Due.is("the first one to the last one", x.counted(0, 9), 0);
        Due.noFunction(x, "outside is never called", () -> x.counted(0, NONE));
        Due.noFunction(x, "not by itself, either", () -> x.counted(NONE, NONE));
        Due.noFunction(x, "-2 is not outside", () -> x.counted(-2, 0));
    }

    private static void blamedHowOften() {
        Due.sentence("Returns how often it was BLAMED.");
        TypecheckStation x = Build.stationOf(10);
        x.step(9, Build.NOT);
        Due.is("ahead of all", x.blamed(9), 0);
        for (int i = 1; i <= 3; i++) {
            x.run(9, TEXT, 0);
            x.run(9, FLAG, 0);
            x.wouldBlame(9, TEXT, 0);
            Due.is("by runs with a failure alone", x.blamed(9), i);
        }
        Due.is("not another one", x.blamed(0), 0);
    }

    private static void meanWithoutAny() {
        Due.sentence("Returns the mean COST of a RUN, not cut; 0 without any.");
        TypecheckStation x = Build.stationOf(1);
        Due.isDouble("without any", x.meanCost(), 0.0);
        Due.is("not the 0 below 0", 1.0 / x.meanCost() > 0.0, true);
        x.run(0, FLAG, 0);
        Due.isDouble("one of no cost", x.meanCost(), 0.0);
        x.step(0, Build.NOT);
        x.run(0, FLAG, 0);
        Due.isDouble("two", x.meanCost(), 0.5);
    }

    private static void meanIsNotCut() {
        TypecheckStation x = Build.stationOf(1);
        x.step(0, Build.NOT);
        x.run(0, FLAG, 0);
        x.step(0, Build.NOT);
        x.run(0, FLAG, 0);
        x.run(0, FLAG, 0);
        Due.isDouble("three", x.meanCost(), 5.0 / 3.0);
        x.run(0, TEXT, 0);
        Due.isDouble("one with a failure counts, too", x.meanCost(), 1.5);
        for (int i = 0; i < 3; i++) {
            x.run(0, FLAG, 0);
        }
        Due.isDouble("seven", x.meanCost(), 12.0 / 7.0);
    }

    private static void gainOfATypedOne() {
        Due.sentence("Returns its GAIN; 0 if it is TYPED.");
        TypecheckStation x = new TypecheckStation();
        Build.function(x, NUMBER, NUMBER, 1);
        x.run(0, NUMBER, 1);
        Due.is("not typed", x.gain(0), -2);
        x.type(0, true);
        Due.is("typed", x.gain(0), 0);
        x.type(0, false);
        x.hint(0, TEXT, NUMBER);
        Due.is("one that cannot be, as if it was", x.gain(0), -2);
        x.hint(0, ANY, NUMBER);
        Due.is("without a guard from outside", x.gain(0), 0);
    }

    private static void nextWithoutOne() {
        Due.sentence("Returns the NEXT FUNCTION; NONE without one.");
        TypecheckStation x = Build.stationOf(2);
        x.hint(0, NUMBER, TEXT);
        Due.is("one can be", x.next(), 1);
        x.type(1, true);
        Due.is("one is, one cannot be", x.next(), NONE);
        x.type(1, false);
        x.hint(1, ANY, TEXT);
        Due.is("neither can be", x.next(), NONE);
    }

    private static void migratesNotBelowZero() {
        Due.sentence("as long as there is one with a GAIN that is not below 0");
        TypecheckStation x = new TypecheckStation();
        Build.function(x, NUMBER, NUMBER, 1);
        Build.function(x, NUMBER, NUMBER, 1);
        x.run(0, NUMBER, 1);
        Due.is("-2", x.gain(0), -2);
        Due.is("0 is enough, -2 is not", x.migrate(10), 1);
        Due.is("the second one is", x.ofFunction(1, 3), 1);
        Due.is("the first one is not", x.ofFunction(0, 3), 0);
        Due.is("it is still next", x.next(), 0);
        Due.is("none again", x.migrate(10), 0);
    }

    /** Typed from the first on, each one makes that the next one brings a gain. */
    private static void migratesOneBehindTheOther() {
        Due.sentence("Lets the NEXT FUNCTIONS be TYPED, one behind the other");
        TypecheckStation x = new TypecheckStation();
        Build.function(x, NUMBER, NUMBER, 1);
        Build.function(x, NUMBER, NUMBER, 40, 40, 40);
        Build.function(x, NUMBER, NUMBER, 41, 41);
        x.run(2, NUMBER, 1);
        Due.is("the first one brings a loss", x.gain(0), -12);
        Due.is("the second one, too", x.gain(1), -4 - 12);
        Due.is("the third one, too", x.gain(2), -2 - 4);
        Due.is("so none is", x.migrate(10), 0);
        x.type(0, true);
        Due.is("now the second one gains", x.gain(1), 12 - 4);
        Due.is("and the third one does not yet", x.gain(2), -2 - 4);
        Due.is("but behind the second one", x.migrate(10), 2);
        Due.is("all are", x.many(1), 3);
        Due.is("the toll of outside is left", x.many(8), 2);
    }

    private static void migratesAtMost() {
        Due.sentence("how many at most");
        for (int most = 1; most <= 10; most++) {
            TypecheckStation x = Build.stationOf(10);
            Due.is("so many", x.migrate(most), most);
            Due.is("these are typed", x.many(1), most);
            Due.is("the smallest ones", x.ofFunction(most - 1, 3), 1);
            Due.is("the others", x.migrate(10), 10 - most);
        }
        TypecheckStation y = Build.stationOf(3);
        Due.is("more than there are", y.migrate(10), 3);
        Due.is("checks", y.many(4), 0);
    }

    private static void wouldBlameNobody() {
        Due.sentence("Returns who would be BLAMED, if it was RUN; NONE, if nobody.");
        TypecheckStation x = new TypecheckStation();
        Build.function(x, ANY, ANY);
        Build.function(x, ANY, ANY, Build.CALL + 1);
        Build.typed(x, TEXT, ANY);
        Build.function(x, ANY, ANY, Build.CALL + 2);
        Due.is("without a failure", x.wouldBlame(0, FLAG, 1), NONE);
        Due.is("too deep", x.wouldBlame(1, FLAG, 1), NONE);
        Due.is("from outside", x.wouldBlame(2, FLAG, 1), NONE);
        Due.is("somebody", x.wouldBlame(3, FLAG, 1), 3);
        Due.is("no run", x.many(5), 0);
        Due.is("no blame", x.blamed(3), 0);
    }

    private static void wouldCostWithABudget() {
        Due.sentence("Returns what a RUN would COST with that.");
        TypecheckStation x = new TypecheckStation();
        Build.typed(x, NUMBER, NUMBER, 1);
        Build.function(x, ANY, ANY, Build.CALL, Build.CALL);
        x.budget(1);
        Due.is("with 0", x.wouldCost(1, NUMBER, 1, 0), 4);
        Due.is("with 1", x.wouldCost(1, NUMBER, 1, 1), 6);
        Due.is("with 2", x.wouldCost(1, NUMBER, 1, 2), 8);
        Due.is("with 20", x.wouldCost(1, NUMBER, 1, 20), 8);
        Due.is("one that fails at once", x.wouldCost(0, TEXT, 1, 20), 2);
        Due.is("one that fails behind", x.wouldCost(0, TEXT, 1, 0), 1);
        Due.is("the station's is as it was", x.budget(1), 1);
        Due.is("costs", x.many(7), 0);
    }

    private static void wouldNotBeTyped() {
        Due.sentence("Returns how many FUNCTIONS would not be TYPED any more with these.");
        TypecheckStation x = new TypecheckStation();
        Build.typed(x, NUMBER, NUMBER, 1);
        Build.typed(x, NUMBER, NUMBER, Build.CALL);
        Build.function(x, NUMBER, NUMBER, Build.CALL);
        int checks = x.many(4);
        Due.is("as they are", x.untyped(0, NUMBER, NUMBER), 0);
        Due.is("in alone", x.untyped(0, TEXT, NUMBER), 2);
        Due.is("in is as it was", x.ofFunction(0, 1), NUMBER);
        Due.is("out alone", x.untyped(0, NUMBER, TEXT), 2);
        Due.is("out is as it was", x.ofFunction(0, 2), NUMBER);
        Due.is("any in", x.untyped(0, ANY, NUMBER), 1);
        Due.is("any out", x.untyped(0, NUMBER, ANY), 1);
        Due.is("of one that is not", x.untyped(2, TEXT, TEXT), 0);
        Due.is("they are, as they were", x.many(1), 2);
        Due.is("no checks", x.many(4), checks);
    }

    private static void tollAtBestAndNoOthers() {
        Due.sentence("Returns the TOLL of all, if all that can be were TYPED, and no others.");
        TypecheckStation x = new TypecheckStation();
        Build.function(x, TEXT, NUMBER, Build.NOT);
        Build.function(x, NUMBER, ANY, Build.CALL);
        Build.function(x, ANY, ANY, Build.SHOW);
        x.run(1, FLAG, 1);
        x.run(0, FLAG, 1);
        x.run(2, FLAG, 1);
        Due.is("neither of the first two can be", x.tollAtBest(), 0);
        x.hint(0, NUMBER, TEXT);
        Due.is("the second can: outside, and what the first gives", x.tollAtBest(), 4);
        x.unstep(0);
        x.hint(0, NUMBER, NUMBER);
        Due.is("both can: outside to each of them", x.tollAtBest(), 4);
        x.type(0, true);
        Due.is("whoever is now", x.tollAtBest(), 4);
        Due.is("as it is: outside, and the second", x.many(8), 4);
        Due.is("none was typed by that", x.many(1), 1);
    }

    /** The sum without an end, cut to 64 bits at its end alone. */
    private static BigInteger sum(int... numbers) {
        BigInteger d = BigInteger.valueOf(58113);
        for (int number : numbers) {
            d = d.multiply(BigInteger.valueOf(31)).add(BigInteger.valueOf(number));
        }
        return d;
    }

    private static void digestWraps() {
        Due.sentence("d becomes d * 31 + v, which wraps around as a 64-bit integer");
        BigInteger empty = sum(0, 0, 0, 0, 0, 0, 0, 0, 0, 0, 0, 0, 0, 0, 0, 0, 0, -1, 0);
        Due.is("it is longer than 64 bits", empty.bitLength() > 64, true);
        Due.is("of a new station", new TypecheckStation().digest(), empty.longValue());
        TypecheckStation x = Build.stationOf(1);
        x.step(0, Build.NOT);
        x.run(0, NUMBER, 5);
        BigInteger one = sum(1, 0, 0, 0, 1, 1, 1, 1, 0,
                1, 0, 1, 0, 0, ANY, 0, 1,
                1, ANY, ANY, 0, 0, NONE, 1, FLAG, FLAG, 0, 1,
                Build.NOT, 1, 0, 0, 0, NONE,
                NONE, 0);
        Due.is("of one function", x.digest(), one.longValue());
    }

    private static void digestOfOnlyThese() {
        Due.sentence("Computes a checksum.");
        TypecheckStation x = new TypecheckStation();
        Build.typed(x, NUMBER, NUMBER, 1);
        x.run(0, NUMBER, 1);
        long before = x.digest();
        Due.is("the same again", x.digest(), before);
        x.budget(3);
        Due.is("the budget is not among them", x.digest(), before);
        Due.badArgument(x, "a refused call", () -> x.migrate(0));
        Due.is("nor are refused calls", x.digest(), before);
        x.run(0, NUMBER, 1);
        Due.is("a run is", x.digest() == before, false);
    }
}
