/** Each sentence of the terms 3 and 4 that names an edge: at the edge, and beside it. */
public final class RunsEdgesTest {
    private static final int NONE = Build.NONE;
    private static final int NUMBER = Build.NUMBER;
    private static final int TEXT = Build.TEXT;
    private static final int FLAG = Build.FLAG;
    private static final int ANY = Build.ANY;

    public static void main(String[] args) {
        guardsOfIn();
        guardsOfOut();
        twentyGuards();
        theFirstOnes();
        onlyThoseToWhichItComes();
        aCallNeedsNothing();
        twelveAreFine();
        thirteenAreNot();
        depthAheadOfGuards();
        twoHundredAreFine();
        moreAreNot();
        theTwoHundredthFails();
        theTwoHundredthIsACall();
        guardBehindTheTwoHundredth();
        depthAtTheTwoHundredth();
        blameOnTheCaller();
        blameOnTheGiver();
        blameOnNobody();
        blameOfAnUntypedStep();
        blameOfATypedStep();
        skippedGuardsThatHold();
        costOfACall();
        costOfGuards();
        greatestCost();
        countedWhateverCame();
        tollWhateverTheBudget();
        tollWithoutAGuard();
        gainBelowZero();
        nextOfSeveral();
        Due.end();
    }

    private static void latest(TypecheckStation x, String what, int... want) {
        for (int i = 0; i < want.length; i++) {
            Due.is(what + ", latest " + i, x.latest(i), want[i]);
        }
    }

    // ---- guards

    private static void guardsOfIn() {
        Due.sentence("There is a GUARD where a FUNCTION that is TYPED is CALLED by one that is not, or from outside,"
                + " and has an IN that is not ANY");
        for (int in = 0; in <= 3; in++) {
            TypecheckStation x = new TypecheckStation();
            Build.typed(x, in, ANY);
            Build.function(x, ANY, ANY, Build.CALL);
            Build.typed(x, in, ANY, Build.CALL);
            int one = in == ANY ? 0 : 1;
            int type = in == ANY ? TEXT : in;
            x.run(0, type, 1);
            Due.is("from outside, in " + in, x.latest(3), one);
            x.run(1, type, 1);
            Due.is("from one that is not, in " + in, x.latest(3), one);
            x.run(2, type, 1);
            Due.is("from one that is: that of outside alone, in " + in, x.latest(3), one);
            x.type(0, false);
            x.run(0, type, 1);
            Due.is("none of one that is not, in " + in, x.latest(3), 0);
            x.run(1, type, 1);
            Due.is("none among two that are not, in " + in, x.latest(3), 0);
        }
    }

    private static void guardsOfOut() {
        Due.sentence("where one that is not TYPED is CALLED by one that is, and has an OUT that is not ANY:"
                + " what it GIVES must be of that TYPE");
        for (int out = 0; out <= 3; out++) {
            TypecheckStation x = new TypecheckStation();
            Build.function(x, ANY, out);
            Build.typed(x, ANY, ANY, Build.CALL);
            Build.function(x, ANY, ANY, Build.CALL);
            for (int type = 0; type <= 2; type++) {
                boolean holds = out == ANY || out == type;
                Due.is("out " + out + " of " + type, x.run(1, type, 1), holds ? 0 : 3);
                Due.is("looked at, out " + out, x.latest(3), out == ANY ? 0 : 1);
                Due.is("from outside, out " + out, x.run(0, type, 1), 0);
                Due.is("none from outside, out " + out, x.latest(3), 0);
                Due.is("from one that is not, out " + out, x.run(2, type, 1), 0);
                Due.is("none from one that is not, out " + out, x.latest(3), 0);
            }
        }
    }

    /** A run of 2 comes to 21 guards, each of 0. */
    private static TypecheckStation guards21() {
        TypecheckStation x = new TypecheckStation();
        Build.typed(x, NUMBER, NUMBER, 0);
        Build.function(x, ANY, ANY, 40, 40, 40, 40, 40, 40);
        Build.function(x, ANY, ANY, 41, 41, 41, 40, 40, 40);
        return x;
    }

    private static void twentyGuards() {
        Due.sentence("A BUDGET, 0 to 20 (20 at first), tells how many GUARDS of a RUN are LOOKED at");
        TypecheckStation x = guards21();
        x.run(2, NUMBER, 5);
        latest(x, "21 of them", 0, NONE, 6 + 18 + 21 + 40, 20, 1, NUMBER, 5, 3);
        x.unstep(2);
        x.run(2, NUMBER, 5);
        latest(x, "20 of them", 0, NONE, 5 + 18 + 20 + 40, 20, 0, NUMBER, 5, 3);
        x.budget(19);
        x.run(2, NUMBER, 5);
        latest(x, "20, and a budget of 19", 0, NONE, 43 + 38, 19, 1, NUMBER, 5, 3);
        x.budget(0);
        x.run(2, NUMBER, 5);
        latest(x, "20, and a budget of 0", 0, NONE, 43, 0, 20, NUMBER, 5, 3);
        x.budget(20);
        x.run(2, NUMBER, 5);
        Due.is("20 again", x.latest(3), 20);
    }

    private static void theFirstOnes() {
        Due.sentence("the first ones to which it comes");
        TypecheckStation x = new TypecheckStation();
        Build.typed(x, NUMBER, NUMBER, 1);
        Build.typed(x, TEXT, NUMBER, Build.LENGTH);
        Build.function(x, ANY, ANY, Build.CALL, Build.CALL + 1);
        x.budget(2);
        Due.is("the second one fails, and is looked at", x.run(2, NUMBER, 1), 2);
        latest(x, "two", 2, 2, 3 + 4, 2, 0, ANY, 0, 2);
        x.budget(1);
        Due.is("the second one is skipped", x.run(2, NUMBER, 1), 1);
        latest(x, "one", 1, 2, 4 + 2, 1, 1, ANY, 0, 2);
    }

    private static void onlyThoseToWhichItComes() {
        Due.sentence("all others to which it comes are SKIPPED");
        TypecheckStation x = guards21();
        x.budget(1);
        Due.is("the first one fails", x.run(2, TEXT, 5), 2);
        latest(x, "it comes to no others", 2, 1, 1 + 1 + 2, 1, 0, ANY, 0, 3);
        x.budget(0);
        Due.is("the first step fails", x.run(2, TEXT, 5), 1);
        latest(x, "it came to one", 1, 1, 1 + 1 + 1, 0, 1, ANY, 0, 3);
    }

    private static void aCallNeedsNothing() {
        Due.sentence("1 at a STEP that NEEDS a TYPE, if the VALUE is of another one (a CALL NEEDS nothing here)");
        TypecheckStation x = new TypecheckStation();
        Build.function(x, NUMBER, NUMBER, Build.SHOW);
        Build.function(x, ANY, ANY, Build.CALL);
        Due.is("a call of one with an in", x.run(1, FLAG, 1), 0);
        Due.is("from outside", x.run(0, TEXT, 1), 0);
        x.step(0, Build.TEST);
        Due.is("a step does", x.run(1, FLAG, 1), 1);
    }

    // ---- functions in each other

    /** Nine in a ring; the number becomes a text on the way round, so the steps of 2 and 3 differ. */
    private static TypecheckStation ring(int asking) {
        TypecheckStation x = Build.stationOf(9);
        for (int i = 0; i < 8; i++) {
            if (i == asking) {
                x.step(i, 0);
            }
            x.step(i, Build.CALL + i + 1);
        }
        x.step(8, Build.SHOW);
        x.step(8, Build.CALL);
        return x;
    }

    private static void twelveAreFine() {
        Due.sentence("4, ahead of all GUARDS, as more than 12 FUNCTIONS would be RUN in each other");
        TypecheckStation x = Build.stationOf(10);
        for (int i = 0; i < 9; i++) {
            x.step(i, Build.CALL + i + 1);
        }
        Due.is("ten, without a ring", x.run(0, FLAG, 1), 0);
        latest(x, "ten", 0, NONE, 9, 0, 0, FLAG, 1, 10);
        TypecheckStation y = ring(2);
        Due.is("the twelfth is begun", y.run(0, NUMBER, 1), 1);
        latest(y, "the twelfth", 1, 2, 9 + 1 + 2 + 1 + 1, 0, 0, ANY, 0, 12);
    }

    private static void thirteenAreNot() {
        TypecheckStation x = ring(3);
        Due.is("the thirteenth is not", x.run(0, NUMBER, 1), 4);
        latest(x, "the thirteenth", 4, NONE, 9 + 1 + 1 + 3, 0, 0, ANY, 0, 12);
        TypecheckStation y = Build.stationOf(1);
        y.step(0, Build.CALL);
        Due.is("itself in itself", y.run(0, NUMBER, 1), 4);
        latest(y, "itself", 4, NONE, 12, 0, 0, ANY, 0, 12);
        Due.is("eleven times", y.counted(0, 0), 11);
    }

    private static void depthAheadOfGuards() {
        TypecheckStation x = ring(3);
        x.unstep(3);
        x.unstep(3);
        x.hint(3, NUMBER, ANY);
        x.type(3, true);
        Due.is("it ends with a typed one", x.run(0, NUMBER, 1), 0);
        x.step(3, Build.CALL + 4);
        x.type(3, true);
        Due.is("the thirteenth would fail at its guard", x.run(0, NUMBER, 1), 4);
        Due.is("it was looked at the first time alone", x.latest(3), 1);
        Due.is("none was skipped", x.latest(4), 0);
        Due.is("nobody is blamed", x.latest(1), NONE);
        x.hint(3, ANY, ANY);
        x.hint(2, NUMBER, ANY);
        x.type(2, true);
        Due.is("the twelfth does", x.run(0, NUMBER, 1), 2);
        latest(x, "the twelfth", 2, 1, 9 + 1 + 2 + 4, 2, 0, ANY, 0, 12);
    }

    // ---- steps

    /** A run of 3 takes 198 steps, of 4 it takes 199. */
    private static TypecheckStation steps199() {
        TypecheckStation x = new TypecheckStation();
        Build.function(x, ANY, ANY, 0, 0, 0, 0, 0, 0);
        Build.function(x, ANY, ANY, 40, 40, 40, 40, 40, 40);
        Build.function(x, ANY, ANY, 41, 41, 41, 41, 40, 40);
        Build.function(x, ANY, ANY, 42, 40, 0, 0, 0, 0);
        Build.function(x, ANY, ANY, 43);
        Build.function(x, ANY, ANY);
        return x;
    }

    private static void twoHundredAreFine() {
        Due.sentence("5 as there would be more than 200 STEPS (that STEP is not begun)");
        TypecheckStation x = steps199();
        Due.is("199", x.run(4, NUMBER, 3), 0);
        latest(x, "199", 0, NONE, 199, 0, 0, NUMBER, 3, 5);
        x.step(4, 1);
        Due.is("200", x.run(4, NUMBER, 3), 0);
        latest(x, "200", 0, NONE, 200, 0, 0, NUMBER, 4, 5);
    }

    private static void moreAreNot() {
        TypecheckStation x = steps199();
        x.step(4, 1);
        x.step(4, 1);
        Due.is("201", x.run(4, NUMBER, 3), 5);
        latest(x, "201", 5, NONE, 200, 0, 0, ANY, 0, 5);
        x.unstep(4);
        x.step(4, Build.NOT);
        Due.is("a 201st that would fail", x.run(4, NUMBER, 3), 5);
        x.unstep(4);
        x.step(4, Build.CALL + 5);
        Due.is("a 201st that is a call", x.run(4, NUMBER, 3), 5);
        Due.is("it costs nothing", x.latest(2), 200);
        Due.is("it calls nobody", x.counted(4, 5), 0);
    }

    private static void theTwoHundredthFails() {
        TypecheckStation x = steps199();
        x.step(4, Build.NOT);
        x.step(4, 1);
        Due.is("it is begun", x.run(4, NUMBER, 3), 1);
        latest(x, "the 200th", 1, 4, 200, 0, 0, ANY, 0, 5);
    }

    private static void theTwoHundredthIsACall() {
        TypecheckStation x = steps199();
        x.step(4, Build.CALL + 5);
        Due.is("of one without steps", x.run(4, NUMBER, 3), 0);
        latest(x, "the 200th", 0, NONE, 200, 0, 0, NUMBER, 3, 5);
        Due.is("it is counted", x.counted(4, 5), 1);
        x.hint(5, TEXT, ANY);
        x.type(5, true);
        Due.is("of one with a guard", x.run(4, NUMBER, 3), 2);
        latest(x, "its guard is looked at", 2, 4, 202, 1, 0, ANY, 0, 5);
        x.hint(5, ANY, ANY);
        x.step(5, Build.SHOW);
        Due.is("of one with a step", x.run(4, NUMBER, 3), 5);
        Due.is("it is counted, too", x.counted(4, 5), 3);
    }

    private static void guardBehindTheTwoHundredth() {
        TypecheckStation x = steps199();
        x.hint(3, NUMBER, NUMBER);
        x.unstep(4);
        x.step(4, 1);
        x.step(4, 43);
        x.hint(4, NUMBER, ANY);
        x.type(4, true);
        Due.is("it holds", x.run(4, NUMBER, 3), 0);
        latest(x, "it is looked at", 0, NONE, 204, 2, 0, NUMBER, 4, 5);
        x.hint(3, NUMBER, FLAG);
        Due.is("it fails", x.run(4, NUMBER, 3), 3);
        latest(x, "on what gave it", 3, 3, 204, 2, 0, ANY, 0, 5);
    }

    /** 18 steps, then ten times 18 of 1 in itself; the twelfth begins its first ones. */
    private static TypecheckStation deepAndLong(int... innermost) {
        TypecheckStation x = new TypecheckStation();
        Build.function(x, ANY, ANY, 0, 0, 0, 0, 0, 0);
        x.function();
        for (int step : innermost) {
            x.step(1, step);
        }
        Build.function(x, ANY, ANY, 40, 40, 0, 0, 0, 41);
        return x;
    }

    private static void depthAtTheTwoHundredth() {
        TypecheckStation x = deepAndLong(0, 40, 40, 0, 0, 41);
        Due.is("the 200th goes too deep", x.run(2, NUMBER, 1), 4);
        latest(x, "too deep", 4, NONE, 200, 0, 0, ANY, 0, 12);
        Due.is("two of each of ten", x.counted(1, 0), 20);
        Due.is("ten in itself", x.counted(1, 1), 10);
        TypecheckStation y = deepAndLong(0, 0, 40, 40, 0, 41);
        Due.is("the 201st would", y.run(2, NUMBER, 1), 5);
        latest(y, "too long", 5, NONE, 200, 0, 0, ANY, 0, 12);
        Due.is("two of each of ten, too", y.counted(1, 0), 20);
    }

    // ---- blame

    private static void blameOnTheCaller() {
        Due.sentence("2 on the one that CALLS (NONE from outside)");
        TypecheckStation x = new TypecheckStation();
        Build.typed(x, TEXT, ANY);
        Build.function(x, ANY, ANY, Build.CALL);
        Build.function(x, ANY, ANY, Build.CALL + 1);
        Due.is("from outside", x.run(0, NUMBER, 1), 2);
        Due.is("nobody", x.latest(1), NONE);
        Due.is("from one", x.run(2, NUMBER, 1), 2);
        Due.is("the one that calls it", x.latest(1), 1);
        Due.is("its blames", x.blamed(1), 1);
        Due.is("no blames of the others", x.blamed(0) + x.blamed(2), 0);
    }

    private static void blameOnTheGiver() {
        Due.sentence("3 on the one that GIVES");
        TypecheckStation x = new TypecheckStation();
        Build.function(x, ANY, ANY);
        Build.function(x, ANY, TEXT, Build.CALL);
        Build.typed(x, ANY, TEXT, Build.CALL + 1);
        Due.is("it gives", x.run(2, NUMBER, 1), 3);
        Due.is("it is blamed, not whom it called", x.latest(1), 1);
        Due.is("its blames", x.blamed(1), 1);
        Due.is("no blames of the others", x.blamed(0) + x.blamed(2), 0);
    }

    private static void blameOnNobody() {
        Due.sentence("4 and 5 on nobody (NONE)");
        TypecheckStation x = Build.stationOf(1);
        x.step(0, Build.CALL);
        x.run(0, NUMBER, 1);
        latest(x, "too deep", 4, NONE);
        Due.is("would be too deep", x.wouldBlame(0, NUMBER, 1), NONE);
        TypecheckStation y = steps199();
        y.step(4, 0);
        y.step(4, 0);
        y.run(4, NUMBER, 1);
        latest(y, "too long", 5, NONE);
        Due.is("would be too long", y.wouldBlame(4, NUMBER, 1), NONE);
        Due.is("nobody's", x.blamed(0) + y.blamed(0) + y.blamed(3) + y.blamed(4), 0);
        Due.is("they are failures all the same", x.many(6) + y.many(6), 2);
    }

    private static void blameOfAnUntypedStep() {
        Due.sentence("1 on the FUNCTION with the STEP, if that is not TYPED");
        TypecheckStation x = new TypecheckStation();
        Build.typed(x, TEXT, ANY, Build.SHOW);
        Build.function(x, NUMBER, ANY, Build.CALL, Build.NOT);
        x.budget(0);
        Due.is("behind a skipped guard that would have failed", x.run(1, NUMBER, 1), 1);
        Due.is("it is on the step's all the same", x.latest(1), 1);
        Build.function(x, ANY, ANY, Build.CALL + 1);
        Due.is("called by another", x.run(2, NUMBER, 1), 1);
        Due.is("not on that one", x.latest(1), 1);
    }

    private static void blameOfATypedStep() {
        Due.sentence("otherwise on the one on which it would have been BLAMED at the first GUARD that was SKIPPED"
                + " in this RUN and would have failed");
        TypecheckStation x = new TypecheckStation();
        Build.function(x, ANY, NUMBER, Build.SHOW);
        Build.typed(x, FLAG, NUMBER, Build.CALL, 1);
        Build.function(x, ANY, ANY, Build.CALL + 1);
        x.budget(0);
        Due.is("its in held, what it was given did not", x.run(2, FLAG, 1), 1);
        latest(x, "the giver", 1, 0, 4, 0, 2, ANY, 0, 3);
        Due.is("neither held", x.run(2, NUMBER, 1), 1);
        latest(x, "the caller came first", 1, 2, 4, 0, 2, ANY, 0, 3);
        Due.is("neither held, from outside", x.run(1, NUMBER, 1), 1);
        latest(x, "outside came first", 1, NONE, 3, 0, 2, ANY, 0, 2);
        x.budget(1);
        Due.is("the first one is looked at, and holds", x.run(1, FLAG, 1), 1);
        latest(x, "the giver again", 1, 0, 3 + 2, 1, 1, ANY, 0, 2);
        Due.is("a run before does not matter", x.wouldBlame(2, FLAG, 1), 0);
        Due.is("a typed one is never blamed", x.blamed(1), 0);
    }

    private static void skippedGuardsThatHold() {
        TypecheckStation x = new TypecheckStation();
        Build.typed(x, NUMBER, NUMBER, 1);
        Build.typed(x, TEXT, NUMBER, Build.LENGTH);
        Build.function(x, ANY, ANY, Build.CALL);
        Build.function(x, ANY, ANY, Build.CALL + 2, Build.CALL + 1);
        x.budget(0);
        Due.is("the one of 2 would have held", x.run(3, NUMBER, 1), 1);
        latest(x, "so it is not 2", 1, 3, 5, 0, 2, ANY, 0, 3);
    }

    // ---- cost, and what is counted

    private static void costOfACall() {
        Due.sentence("1 for each STEP that was begun (so a CALL is one, whatever comes of it)");
        TypecheckStation x = new TypecheckStation();
        Build.function(x, ANY, ANY);
        Build.function(x, ANY, ANY, Build.CALL);
        Build.typed(x, TEXT, ANY);
        Build.function(x, ANY, ANY, Build.CALL + 2);
        Build.function(x, ANY, ANY, Build.CALL + 4);
        x.run(0, NUMBER, 1);
        Due.is("no step at all", x.latest(2), 0);
        x.run(1, NUMBER, 1);
        Due.is("a call of one without steps", x.latest(2), 1);
        x.run(3, NUMBER, 1);
        Due.is("a call that fails at its guard", x.latest(2), 1 + 2);
        x.run(4, NUMBER, 1);
        Due.is("the twelfth call goes too deep", x.latest(2), 12);
        Due.is("all of them", x.many(7), 16);
    }

    private static void costOfGuards() {
        Due.sentence("and 2 for each GUARD that was LOOKED at");
        TypecheckStation x = guards21();
        int bare = 6 + 18 + 21;
        for (int budget = 0; budget <= 20; budget++) {
            Due.is("with a budget of " + budget, x.wouldCost(2, NUMBER, 1, budget), bare + 2 * budget);
        }
        x.run(0, TEXT, 1);
        Due.is("one that fails costs, too", x.latest(2), 2);
    }

    private static void greatestCost() {
        TypecheckStation x = steps199();
        x.step(4, 0);
        x.hint(0, NUMBER, NUMBER);
        x.type(0, true);
        Due.is("200 steps, and 27 guards", x.run(4, NUMBER, 0), 0);
        latest(x, "20 of them looked at", 0, NONE, 240, 20, 7, NUMBER, 0, 5);
    }

    private static void countedWhateverCame() {
        Due.sentence("whatever came of it (but a CALL with the FAILURE 4)");
        TypecheckStation x = new TypecheckStation();
        Build.typed(x, TEXT, ANY);
        Build.function(x, ANY, ANY, Build.CALL);
        x.run(1, NUMBER, 1);
        x.run(0, NUMBER, 1);
        Due.is("a call with the failure 2", x.counted(1, 0), 1);
        Due.is("outside, with the failure 2", x.counted(NONE, 0), 1);
        Due.is("outside of it", x.counted(NONE, 1), 1);
        Build.function(x, ANY, FLAG);
        Build.typed(x, ANY, FLAG, Build.CALL + 2);
        Due.is("it fails", x.run(3, NUMBER, 1), 3);
        Due.is("a call with the failure 3", x.counted(3, 2), 1);
        Build.function(x, ANY, ANY, Build.NOT);
        Build.function(x, ANY, ANY, Build.CALL + 4, Build.CALL + 2);
        Due.is("it fails", x.run(5, NUMBER, 1), 1);
        Due.is("a call with the failure 1", x.counted(5, 4), 1);
        Due.is("what it did not come to", x.counted(5, 2), 0);
        Build.function(x, ANY, ANY, Build.CALL + 6, Build.CALL + 2);
        Due.is("it fails", x.run(6, NUMBER, 1), 4);
        Due.is("not that with the failure 4", x.counted(6, 6), 11);
        Due.is("called in all", x.ofFunction(6, 10), 12);
    }

    // ---- migration

    private static void tollWhateverTheBudget() {
        Due.sentence("by hints and by who is TYPED now, whatever the BUDGET is");
        TypecheckStation x = guards21();
        x.budget(0);
        x.run(2, NUMBER, 1);
        x.run(0, TEXT, 1);
        Due.is("none was looked at", x.many(7), 45 + 1);
        Due.is("21, and outside", x.many(8), 42 + 2);
        x.type(0, false);
        Due.is("not typed now", x.many(8), 0);
        x.type(0, true);
        x.hint(0, ANY, ANY);
        Due.is("not typed by its hint", x.many(8), 0);
        x.hint(0, NUMBER, NUMBER);
        x.type(0, true);
        Due.is("typed again, runs of before count", x.many(8), 44);
    }

    private static void tollWithoutAGuard() {
        Due.sentence("for the GUARD between them, if there is one");
        TypecheckStation x = new TypecheckStation();
        Build.function(x, NUMBER, NUMBER, Build.CALL, 1);
        x.run(0, NUMBER, 1);
        x.type(0, true);
        Due.is("none of itself, one of outside", x.many(8), 2);
        x.hint(0, NUMBER, ANY);
        Due.is("its out has to do with it, as it calls itself", x.ofFunction(0, 3), 0);
        Due.is("none among those that are not", x.many(8), 0);
    }

    private static void gainBelowZero() {
        Due.sentence("by how much the TOLL of all would be less, if it was (below 0: more)");
        TypecheckStation x = new TypecheckStation();
        Build.function(x, NUMBER, NUMBER, 1);
        Build.function(x, NUMBER, NUMBER, 40, 40, 40);
        Due.is("without a run", x.gain(0), 0);
        x.run(1, NUMBER, 1);
        Due.is("more: three calls", x.gain(0), -6);
        Due.is("more: outside, and three gifts", x.gain(1), -2 - 6);
        x.type(0, true);
        Due.is("less: three calls, more: outside", x.gain(1), 6 - 2);
        x.run(1, NUMBER, 1);
        Due.is("twice that", x.gain(1), 12 - 4);
    }

    private static void nextOfSeveral() {
        Due.sentence("the one with the greatest GAIN, of several the smallest number");
        TypecheckStation x = Build.stationOf(10);
        for (int i = 0; i < 10; i++) {
            Due.is("all are alike", x.next(), i);
            x.type(i, true);
        }
        Due.is("none is left", x.next(), NONE);
        TypecheckStation y = new TypecheckStation();
        for (int i = 0; i < 3; i++) {
            Build.function(y, NUMBER, NUMBER, 1);
            y.run(i, NUMBER, 1);
        }
        Due.is("all below 0 alike", y.next(), 0);
        y.run(0, NUMBER, 1);
        Due.is("the first is worse now", y.next(), 1);
        y.hint(1, TEXT, NUMBER);
        Due.is("the second cannot be", y.next(), 2);
    }
}
