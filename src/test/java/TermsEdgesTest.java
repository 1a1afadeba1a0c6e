/** Each sentence of the terms 1 and 2 that names an edge: at the edge, and beside it. */
public final class TermsEdgesTest {
    private static final int NONE = Build.NONE;
    private static final int NUMBER = Build.NUMBER;
    private static final int TEXT = Build.TEXT;
    private static final int FLAG = Build.FLAG;
    private static final int ANY = Build.ANY;
    private static final int LEAST = Integer.MIN_VALUE;
    private static final int GREATEST = Integer.MAX_VALUE;

    public static void main(String[] args) {
        values();
        anyIsNoTypeOfAValue();
        tenFunctions();
        sixSteps();
        hintsAtFirst();
        notTypedAtFirst();
        addAtMost();
        lengthAtItsEnds();
        showOfNumbers();
        showOfFlagsAndTexts();
        testAboveZero();
        theOtherFlag();
        lessAtLeast();
        stepNumbers();
        callsOfAny();
        placesOfFaults();
        itGoesOnBehindFaults();
        itGoesOnBehindLoose();
        looseIsNoFault();
        outOfAnyNeedsNothing();
        canBeTyped();
        notTypedAnyMore();
        allTenAreNotTypedAnyMore();
        checksOfSteps();
        checksOfHints();
        checksOfAdopt();
        eachOtherOneOnce();
        guessesOfIn();
        guessesOfOut();
        Due.end();
    }

    // ---- term 1

    private static void values() {
        valuesOf("0 NUMBER, -999 to 999", NUMBER, new int[] {-999, -998, -1, 0, 1, 998, 999},
                new int[] {-1000, 1000, LEAST, GREATEST});
        valuesOf("1 TEXT, told by its length, 0 to 999", TEXT, new int[] {0, 1, 998, 999},
                new int[] {-1, 1000, -999, LEAST, GREATEST});
        valuesOf("2 FLAG, 0 or 1", FLAG, new int[] {0, 1}, new int[] {-1, 2, 999, LEAST, GREATEST});
    }

    private static void valuesOf(String sentence, int type, int[] good, int[] bad) {
        Due.sentence(sentence);
        TypecheckStation x = Build.stationOf(1);
        for (int number : good) {
            Due.is("run of " + number, x.run(0, type, number), 0);
            Due.is("the type of " + number, x.latest(5), type);
            Due.is("the value " + number, x.latest(6), number);
            Due.is("wouldBlame of " + number, x.wouldBlame(0, type, number), NONE);
            Due.is("wouldCost of " + number, x.wouldCost(0, type, number, 20), 0);
        }
        for (int number : bad) {
            Due.badArgument(x, "run of " + number, () -> x.run(0, type, number));
            Due.badArgument(x, "wouldBlame of " + number, () -> x.wouldBlame(0, type, number));
            Due.badArgument(x, "wouldCost of " + number, () -> x.wouldCost(0, type, number, 20));
        }
    }

    private static void anyIsNoTypeOfAValue() {
        Due.sentence("3 is ANY: no TYPE is known");
        TypecheckStation x = Build.stationOf(1);
        for (int type : new int[] {ANY, 4, -1, LEAST, GREATEST}) {
            Due.badArgument(x, "run of type " + type, () -> x.run(0, type, 0));
            Due.badArgument(x, "wouldBlame of type " + type, () -> x.wouldBlame(0, type, 1));
            Due.badArgument(x, "wouldCost of type " + type, () -> x.wouldCost(0, type, 0, 0));
        }
        Due.is("as a hint it is fine", x.hint(0, ANY, ANY), 0);
    }

    private static void tenFunctions() {
        Due.sentence("FUNCTIONS: at most 10, numbered from 0");
        TypecheckStation x = new TypecheckStation();
        Due.noFunction(x, "0 ahead of all", () -> x.adopt(0));
        for (int i = 0; i < 10; i++) {
            int number = i;
            Due.noFunction(x, number + " is not there yet", () -> x.adopt(number));
            Due.is("its number", x.function(), number);
            Due.is("it is there", x.adopt(number), 0);
        }
        Due.badState(x, "the eleventh", () -> x.function());
        Due.is("ten", x.many(0), 10);
        Due.noFunction(x, "10 is not there", () -> x.adopt(10));
    }

    private static void sixSteps() {
        Due.sentence("each with at most 6 STEPS");
        TypecheckStation x = Build.stationOf(2);
        for (int i = 1; i <= 6; i++) {
            Due.is("how many", x.step(0, i), i);
        }
        Due.badState(x, "the seventh", () -> x.step(0, 7));
        Due.is("still six", x.ofFunction(0, 0), 6);
        Due.is("the sixth is still that", x.stepAt(0, 5), 6);
        Due.is("the other one has its own six", x.step(1, 9), 1);
        x.unstep(0);
        Due.is("the sixth again", x.step(0, 8), 6);
        Due.is("it stands there", x.stepAt(0, 5), 8);
        Due.badState(x, "the seventh again", () -> x.step(0, 7));
    }

    private static void hintsAtFirst() {
        Due.sentence("(a TYPE, or ANY; ANY at first)");
        TypecheckStation x = Build.stationOf(10);
        for (int function = 0; function < 10; function++) {
            Due.is("in of " + function, x.ofFunction(function, 1), ANY);
            Due.is("out of " + function, x.ofFunction(function, 2), ANY);
        }
    }

    private static void notTypedAtFirst() {
        Due.sentence("TYPED or not (not, at first)");
        TypecheckStation x = Build.stationOf(10);
        for (int function = 0; function < 10; function++) {
            Due.is("typed " + function, x.ofFunction(function, 3), 0);
        }
        Due.is("none was", x.type(9, true), false);
        Due.is("the tenth alone is", x.many(1), 1);
    }

    private static void makes(int step, int type, int number, int wantType, int want) {
        TypecheckStation x = Build.stationOf(1);
        x.step(0, step);
        String what = "step " + step + " of " + type + ":" + number;
        Due.is(what, x.run(0, type, number), 0);
        Due.is(what + ", the type", x.latest(5), wantType);
        Due.is(what + ", the value", x.latest(6), want);
    }

    private static void addAtMost() {
        Due.sentence("GIVES that and so much more (999 at most)");
        for (int more = 0; more <= 9; more++) {
            makes(more, NUMBER, -999, NUMBER, -999 + more);
            makes(more, NUMBER, -more, NUMBER, 0);
            makes(more, NUMBER, 999 - more, NUMBER, 999);
            makes(more, NUMBER, 998 - more, NUMBER, 998);
            makes(more, NUMBER, 999, NUMBER, 999);
        }
        makes(9, NUMBER, 991, NUMBER, 999);
        makes(9, NUMBER, 989, NUMBER, 998);
    }

    private static void lengthAtItsEnds() {
        Due.sentence("LENGTH: NEEDS a TEXT, GIVES its length as a NUMBER");
        makes(Build.LENGTH, TEXT, 0, NUMBER, 0);
        makes(Build.LENGTH, TEXT, 1, NUMBER, 1);
        makes(Build.LENGTH, TEXT, 999, NUMBER, 999);
    }

    private static void showOfNumbers() {
        Due.sentence("of a NUMBER as long as it has digits, and 1 longer below 0");
        int[] ends = {0, 1, 9, 10, 99, 100, 999};
        int[] lengths = {1, 1, 1, 2, 2, 3, 3};
        for (int i = 0; i < ends.length; i++) {
            makes(Build.SHOW, NUMBER, ends[i], TEXT, lengths[i]);
            if (ends[i] != 0) {
                makes(Build.SHOW, NUMBER, -ends[i], TEXT, lengths[i] + 1);
            }
        }
    }

    private static void showOfFlagsAndTexts() {
        Due.sentence("of a FLAG 4 long, if it is 1, otherwise 5; of a TEXT that");
        makes(Build.SHOW, FLAG, 1, TEXT, 4);
        makes(Build.SHOW, FLAG, 0, TEXT, 5);
        makes(Build.SHOW, TEXT, 0, TEXT, 0);
        makes(Build.SHOW, TEXT, 1, TEXT, 1);
        makes(Build.SHOW, TEXT, 999, TEXT, 999);
    }

    private static void testAboveZero() {
        Due.sentence("TEST: NEEDS a NUMBER, GIVES a FLAG: 1, if it is above 0");
        makes(Build.TEST, NUMBER, 1, FLAG, 1);
        makes(Build.TEST, NUMBER, 999, FLAG, 1);
        makes(Build.TEST, NUMBER, 0, FLAG, 0);
        makes(Build.TEST, NUMBER, -1, FLAG, 0);
        makes(Build.TEST, NUMBER, -999, FLAG, 0);
    }

    private static void theOtherFlag() {
        Due.sentence("NOT: NEEDS a FLAG, GIVES the other one");
        makes(Build.NOT, FLAG, 0, FLAG, 1);
        makes(Build.NOT, FLAG, 1, FLAG, 0);
    }

    private static void lessAtLeast() {
        Due.sentence("LESS: NEEDS a NUMBER, GIVES that less 5 (-999 at least)");
        makes(Build.LESS, NUMBER, 999, NUMBER, 994);
        makes(Build.LESS, NUMBER, 5, NUMBER, 0);
        makes(Build.LESS, NUMBER, 4, NUMBER, -1);
        makes(Build.LESS, NUMBER, -993, NUMBER, -998);
        makes(Build.LESS, NUMBER, -994, NUMBER, -999);
        makes(Build.LESS, NUMBER, -995, NUMBER, -999);
        makes(Build.LESS, NUMBER, -999, NUMBER, -999);
    }

    private static void stepNumbers() {
        Due.sentence("40 to 49 CALL the FUNCTION of that number less 40");
        TypecheckStation x = Build.stationOf(9);
        for (int step : new int[] {-1, 10, 19, 25, 39, 49, 50, LEAST, GREATEST}) {
            Due.badArgument(x, "with nine functions, step " + step, () -> x.step(0, step));
        }
        Due.is("the ninth is there", x.step(0, 48), 1);
        x.function();
        Due.is("the tenth is there", x.step(0, 49), 2);
        Due.badArgument(x, "an eleventh never is", () -> x.step(0, 50));
        x.run(0, NUMBER, 1);
        Due.is("48 calls 8", x.counted(0, 8), 1);
        Due.is("49 calls 9", x.counted(0, 9), 1);
        Due.is("40 calls itself", x.step(0, 40), 3);
    }

    private static void callsOfAny() {
        Due.sentence("NEEDS its IN (ANY: nothing), GIVES its OUT");
        TypecheckStation x = Build.stationOf(2);
        x.step(1, Build.CALL);
        for (int in = 0; in <= 3; in++) {
            x.hint(1, in, ANY);
            Due.is("faults of a call that needs nothing", x.ofFunction(1, 4), 0);
            Due.is("loose of a call that needs nothing", x.ofFunction(1, 6), 0);
        }
        for (int need = 0; need <= 2; need++) {
            x.hint(0, need, ANY);
            for (int in = 0; in <= 3; in++) {
                x.hint(1, in, ANY);
                Due.is("need " + need + " of " + in, x.ofFunction(1, 4), in == need || in == ANY ? 0 : 1);
                Due.is("loose " + need + " of " + in, x.ofFunction(1, 6), in == ANY ? 1 : 0);
            }
        }
        x.hint(0, ANY, TEXT);
        x.hint(1, NUMBER, TEXT);
        Due.is("it gives the out", x.ofFunction(1, 4) + x.ofFunction(1, 6), 0);
        x.hint(0, ANY, ANY);
        Due.is("an out of any is loose behind it", x.ofFunction(1, 6), 1);
    }

    // ---- term 2

    private static void placesOfFaults() {
        Due.sentence("The place of a FAULT is that of the STEP, or how many STEPS there are, for OUT");
        for (int place = 0; place <= 5; place++) {
            int[] steps = {0, 0, 0, 0, 0, 0};
            steps[place] = Build.LENGTH;
            TypecheckStation x = new TypecheckStation();
            Build.function(x, NUMBER, NUMBER, steps);
            Due.is("one fault", x.ofFunction(0, 4), 1);
            Due.is("its place", x.ofFunction(0, 5), place);
        }
        for (int steps = 0; steps <= 6; steps++) {
            TypecheckStation x = new TypecheckStation();
            Build.function(x, NUMBER, TEXT, new int[steps]);
            Due.is("one fault of out", x.ofFunction(0, 4), 1);
            Due.is("the place of out", x.ofFunction(0, 5), steps);
        }
    }

    private static void itGoesOnBehindFaults() {
        Due.sentence("Behind a FAULT, or what is LOOSE, it goes on");
        TypecheckStation x = new TypecheckStation();
        Build.function(x, FLAG, NUMBER, 22, 22, 22, 22, 22, 22);
        Due.is("six steps and out are faults", x.ofFunction(0, 4), 7);
        Due.is("the first one", x.ofFunction(0, 5), 0);
        Due.is("nothing is loose", x.ofFunction(0, 6), 0);
        for (int i = 1; i < 10; i++) {
            Build.function(x, FLAG, NUMBER, 22, 22, 22, 22, 22, 22);
        }
        Due.is("seventy in all", x.many(3), 70);
        Due.is("none can be typed", x.many(2), 0);
    }

    private static void itGoesOnBehindLoose() {
        Due.sentence("Behind a FAULT, or what is LOOSE, it goes on");
        TypecheckStation x = new TypecheckStation();
        Build.function(x, NUMBER, ANY);
        Build.function(x, ANY, NUMBER, 40, 40, 40, 40, 40, 40);
        Due.is("six steps and out are loose", x.ofFunction(1, 6), 7);
        Due.is("nothing is a fault", x.ofFunction(1, 4), 0);
        Due.is("so there is no place", x.ofFunction(1, 5), NONE);
        Build.function(x, ANY, TEXT, Build.TEST, Build.LENGTH);
        Due.is("loose, then two faults", x.ofFunction(2, 4), 2);
        Due.is("the first fault is behind", x.ofFunction(2, 5), 1);
        Due.is("one is loose", x.ofFunction(2, 6), 1);
    }

    private static void looseIsNoFault() {
        Due.sentence("where ANY is there, it is LOOSE");
        for (int step : new int[] {0, 9, 20, 22, 23, 24}) {
            TypecheckStation x = new TypecheckStation();
            Build.function(x, ANY, ANY, step);
            Due.is("loose at " + step, x.ofFunction(0, 6), 1);
            Due.is("no fault at " + step, x.ofFunction(0, 4), 0);
        }
        TypecheckStation y = new TypecheckStation();
        Build.function(y, ANY, TEXT, Build.SHOW);
        Due.is("show needs nothing", y.ofFunction(0, 6), 0);
    }

    private static void outOfAnyNeedsNothing() {
        Due.sentence("at the end OUT is NEEDED (ANY: nothing)");
        for (int in = 0; in <= 3; in++) {
            for (int out = 0; out <= 3; out++) {
                TypecheckStation x = new TypecheckStation();
                Build.function(x, in, out);
                boolean isLoose = in == ANY && out != ANY;
                boolean isFault = in != ANY && out != ANY && in != out;
                Due.is("loose " + in + " to " + out, x.ofFunction(0, 6), isLoose ? 1 : 0);
                Due.is("fault " + in + " to " + out, x.ofFunction(0, 4), isFault ? 1 : 0);
            }
        }
    }

    private static void canBeTyped() {
        Due.sentence("A FUNCTION can be TYPED, if nothing in it is a FAULT, or LOOSE");
        TypecheckStation x = Build.stationOf(4);
        x.hint(1, NUMBER, TEXT);
        x.hint(2, ANY, TEXT);
        x.step(3, Build.TEST);
        x.step(3, Build.LENGTH);
        Due.is("without steps it can", x.type(0, true), false);
        Due.badState(x, "one fault", () -> x.type(1, true));
        Due.badState(x, "one that is loose", () -> x.type(2, true));
        Due.badState(x, "both", () -> x.type(3, true));
        Due.is("one of four can", x.many(2), 1);
    }

    private static void notTypedAnyMore() {
        Due.sentence("each TYPED one that cannot be TYPED any more is not TYPED");
        TypecheckStation x = new TypecheckStation();
        Build.typed(x, NUMBER, NUMBER, 1);
        x.step(0, 2);
        Due.is("a step that fits", x.ofFunction(0, 3), 1);
        x.step(0, Build.SHOW);
        Due.is("a step that does not", x.ofFunction(0, 3), 0);
        x.unstep(0);
        Due.is("it does not come back", x.ofFunction(0, 3), 0);
        x.type(0, true);
        x.unstep(0);
        Due.is("without one it fits", x.ofFunction(0, 3), 1);
        x.step(0, Build.TEST);
        x.step(0, Build.SHOW);
        x.step(0, Build.LENGTH);
        x.type(0, true);
        x.unstep(0);
        Due.is("unstep, too", x.ofFunction(0, 3), 0);
        Build.function(x, ANY, ANY, Build.LENGTH);
        Build.typed(x, NUMBER, ANY, Build.CALL + 1);
        Due.is("it needs nothing yet", x.ofFunction(2, 3), 1);
        x.adopt(1);
        Due.is("adopt of another, too", x.ofFunction(2, 3), 0);
    }

    private static void allTenAreNotTypedAnyMore() {
        Due.sentence("Returns how many FUNCTIONS are not TYPED any more by that");
        TypecheckStation x = new TypecheckStation();
        Build.typed(x, NUMBER, NUMBER, 1);
        for (int i = 1; i < 10; i++) {
            Build.typed(x, NUMBER, NUMBER, Build.CALL);
        }
        Due.is("all are", x.many(1), 10);
        Due.is("all would not be", x.untyped(0, TEXT, NUMBER), 10);
        Due.is("all but itself", x.untyped(0, NUMBER, ANY), 9);
        Due.is("they still are", x.many(1), 10);
        x.type(9, false);
        Due.is("the untyped one is not told", x.hint(0, TEXT, NUMBER), 9);
        Due.is("none is", x.many(1), 0);
        Due.is("none any more", x.hint(0, FLAG, FLAG), 0);
    }

    private static void checksOfSteps() {
        Due.sentence("with step() and unstep() the FUNCTION is CHECKED");
        TypecheckStation x = Build.stationOf(2);
        x.step(0, Build.CALL + 1);
        x.step(1, 0);
        Due.is("one each, and not who calls it", x.many(4), 2);
        x.unstep(1);
        Due.is("one for an unstep", x.many(4), 3);
        Due.badState(x, "a refused unstep", () -> x.unstep(1));
        Due.badArgument(x, "a refused step", () -> x.step(1, 10));
        Due.is("none for these", x.many(4), 3);
    }

    private static void checksOfHints() {
        Due.sentence("with hint() and adopt(), if a hint becomes another one by that");
        TypecheckStation x = Build.stationOf(1);
        x.hint(0, ANY, ANY);
        Due.is("none is another", x.many(4), 0);
        x.hint(0, NUMBER, ANY);
        Due.is("in is", x.many(4), 1);
        x.hint(0, NUMBER, NUMBER);
        Due.is("out is", x.many(4), 2);
        x.hint(0, TEXT, TEXT);
        Due.is("both are: one check", x.many(4), 3);
        x.hint(0, TEXT, TEXT);
        Due.is("none again", x.many(4), 3);
        Due.badArgument(x, "a refused one", () -> x.hint(0, NUMBER, 4));
        Due.is("none for it", x.many(4), 3);
    }

    private static void checksOfAdopt() {
        Due.sentence("with hint() and adopt(), if a hint becomes another one by that");
        TypecheckStation x = Build.stationOf(2);
        x.step(1, Build.CALL);
        x.adopt(0);
        Due.is("guesses that are any", x.many(4), 1);
        x.step(0, Build.TEST);
        x.adopt(0);
        Due.is("both, and who calls", x.many(4), 2 + 2);
        x.adopt(0);
        Due.is("none again", x.many(4), 4);
        x.hint(0, ANY, FLAG);
        x.adopt(0);
        Due.is("in alone", x.many(4), 4 + 2 + 2);
    }

    private static void eachOtherOneOnce() {
        Due.sentence("each other FUNCTION with a STEP that CALLS it (each once)");
        TypecheckStation x = Build.stationOf(10);
        for (int function = 0; function < 10; function++) {
            for (int i = 0; i < 6; i++) {
                x.step(function, Build.CALL);
            }
        }
        Due.is("sixty steps", x.many(4), 60);
        Due.is("nine others", x.ofFunction(0, 9), 9);
        x.hint(0, NUMBER, TEXT);
        Due.is("it, and nine others, each once", x.many(4), 70);
        x.hint(9, NUMBER, TEXT);
        Due.is("it alone", x.many(4), 71);
        x.unstep(9);
        x.step(9, Build.CALL + 8);
        x.hint(8, NUMBER, ANY);
        Due.is("not those that call who calls", x.many(4), 73 + 2);
    }

    private static void guessesOfIn() {
        Due.sentence("The GUESS of IN is what the first STEP NEEDS (ANY without STEPS, or if that NEEDS nothing)");
        TypecheckStation x = Build.stationOf(2);
        x.hint(0, TEXT, FLAG);
        Due.is("without steps, whatever the hints are", x.ofFunction(0, 7), ANY);
        x.step(0, Build.SHOW);
        Due.is("show needs nothing", x.ofFunction(0, 7), ANY);
        x.step(0, Build.LENGTH);
        Due.is("the first step alone tells", x.ofFunction(0, 7), ANY);
        x.unstep(0);
        x.unstep(0);
        x.step(0, Build.CALL + 1);
        Due.is("a call of any needs nothing", x.ofFunction(0, 7), ANY);
        x.hint(1, FLAG, ANY);
        Due.is("a call of a flag", x.ofFunction(0, 7), FLAG);
    }

    private static void guessesOfOut() {
        Due.sentence("The GUESS of OUT is what the last STEP GIVES (the GUESS of IN without STEPS)");
        TypecheckStation x = Build.stationOf(2);
        x.hint(0, TEXT, FLAG);
        Due.is("without steps, whatever the hints are", x.ofFunction(0, 8), ANY);
        x.step(0, Build.TEST);
        Due.is("one step is the last one", x.ofFunction(0, 8), FLAG);
        for (int i = 2; i <= 5; i++) {
            x.step(0, Build.SHOW);
        }
        x.step(0, Build.LENGTH);
        Due.is("the sixth is the last one", x.ofFunction(0, 8), NUMBER);
        x.unstep(0);
        Due.is("the fifth is", x.ofFunction(0, 8), TEXT);
        x.step(0, Build.CALL + 1);
        Due.is("a call gives any", x.ofFunction(0, 8), ANY);
        x.hint(1, ANY, FLAG);
        Due.is("a call gives its out", x.ofFunction(0, 8), FLAG);
    }
}
