/** A station where a program gets its types, function by function. */
public final class TypecheckStation {
    private static final int NONE = -1;

    private static final int NUMBER = 0;
    private static final int TEXT = 1;
    private static final int FLAG = 2;
    private static final int ANY = 3;

    private static final int MOST_ADDED = 9;
    private static final int LENGTH = 20;
    private static final int SHOW = 21;
    private static final int TEST = 22;
    private static final int NOT = 23;
    private static final int LESS = 24;
    private static final int FIRST_CALL = 40;

    private static final int MOST_FUNCTIONS = 10;
    private static final int MOST_STEPS = 6;
    private static final int MOST_BUDGET = 20;
    private static final int MOST_BEGUN = 200;
    private static final int MOST_NESTED = 12;
    private static final int GREATEST = 999;
    private static final int LOOK_COST = 2;

    private static final int FAILED_STEP = 1;
    private static final int FAILED_CALL = 2;
    private static final int FAILED_GIVE = 3;
    private static final int TOO_DEEP = 4;
    private static final int TOO_LONG = 5;

    private static final int LAST_OF_FUNCTION = 10;
    private static final int LAST_OF_MANY = 8;
    private static final int LAST_OF_LATEST = 7;

    private static final long DIGEST_START = 58113L;
    private static final long DIGEST_FACTOR = 31L;

    private final Program program;
    private final Trial trial;
    private final Books books;
    private int budget;

    public TypecheckStation() {
        program = new Program();
        trial = new Trial(program);
        books = new Books();
        budget = MOST_BUDGET;
    }

    // ---- functions

    public int function() throws IllegalStateException {
        if (program.size >= MOST_FUNCTIONS) {
            throw new IllegalStateException("there are 10 functions");
        }
        program.size++;
        return program.size - 1;
    }

    public int step(int function, int step)
            throws IndexOutOfBoundsException, IllegalArgumentException, IllegalStateException {
        requireFunction(function);
        if (!program.isStep(step)) {
            throw new IllegalArgumentException("no such step");
        }
        Function changed = program.functions[function];
        if (changed.size >= MOST_STEPS) {
            throw new IllegalStateException("the function has 6 steps");
        }
        changed.steps[changed.size] = step;
        changed.size++;
        program.afterStepsChanged();
        return changed.size;
    }

    public int unstep(int function) throws IndexOutOfBoundsException, IllegalStateException {
        requireFunction(function);
        Function changed = program.functions[function];
        if (changed.size <= 0) {
            throw new IllegalStateException("the function has no steps");
        }
        changed.size--;
        program.afterStepsChanged();
        return changed.steps[changed.size];
    }

    public int hint(int function, int in, int out)
            throws IndexOutOfBoundsException, IllegalArgumentException {
        requireFunction(function);
        requireHints(in, out);
        program.changeHints(function, in, out);
        return program.dropUntypable();
    }

    public int adopt(int function) throws IndexOutOfBoundsException {
        requireFunction(function);
        Function now = program.functions[function];
        int in = now.in == ANY ? program.guessIn(now) : now.in;
        int out = now.out == ANY ? program.guessOut(now) : now.out;
        int changed = program.changeHints(function, in, out);
        program.dropUntypable();
        return changed;
    }

    public boolean type(int function, boolean isTyped)
            throws IndexOutOfBoundsException, IllegalStateException {
        requireFunction(function);
        if (isTyped && !program.checked(function).areNone()) {
            throw new IllegalStateException("the function cannot be typed");
        }
        boolean before = has(program.typed, function);
        program.typed = isTyped
                ? with(program.typed, function) : without(program.typed, function);
        return before;
    }

    public int stepAt(int function, int place) throws IndexOutOfBoundsException {
        requireFunction(function);
        Function asked = program.functions[function];
        if (place < 0 || place >= asked.size) {
            throw new IndexOutOfBoundsException("no such place");
        }
        return asked.steps[place];
    }

    public int ofFunction(int function, int what)
            throws IndexOutOfBoundsException, IllegalArgumentException {
        requireFunction(function);
        requireWhat(what, LAST_OF_FUNCTION);
        Function asked = program.functions[function];
        switch (what) {
            case 0: return asked.size;
            case 1: return asked.in;
            case 2: return asked.out;
            case 3: return has(program.typed, function) ? 1 : 0;
            case 4: return program.checked(function).faults;
            case 5: return program.checked(function).firstFault;
            case 6: return program.checked(function).loose;
            case 7: return program.guessIn(asked);
            case 8: return program.guessOut(asked);
            case 9: return program.callersOf(function);
            default: return books.timesCalled(function);
        }
    }

    public int many(int what) throws IllegalArgumentException {
        requireWhat(what, LAST_OF_MANY);
        switch (what) {
            case 0: return program.size;
            case 1: return Integer.bitCount(program.typed);
            case 2: return Integer.bitCount(program.typable());
            case 3: return program.allFaults();
            case 4: return program.checks;
            case 5: return books.runs;
            case 6: return books.failures;
            case 7: return books.costs;
            default: return tollWith(program.typed);
        }
    }

    // ---- runs

    public int budget(int budget) throws IllegalArgumentException {
        requireBudget(budget);
        int before = this.budget;
        this.budget = budget;
        return before;
    }

    public int run(int function, int type, int number)
            throws IndexOutOfBoundsException, IllegalArgumentException {
        requireFunction(function);
        requireValue(type, number);
        trial.tryOut(function, type, number, budget);
        books.enter(trial);
        return trial.failure;
    }

    public int latest(int what) throws IllegalArgumentException {
        requireWhat(what, LAST_OF_LATEST);
        return books.latest[what];
    }

    public int counted(int one, int other) throws IndexOutOfBoundsException {
        if (one != NONE) {
            requireFunction(one);
        }
        requireFunction(other);
        return books.calls[rowOf(one)][other];
    }

    public int blamed(int function) throws IndexOutOfBoundsException {
        requireFunction(function);
        return books.blames[function];
    }

    public double meanCost() {
        return books.runs == 0 ? 0.0 : (double) books.costs / (double) books.runs;
    }

    // ---- migration

    public int gain(int function) throws IndexOutOfBoundsException {
        requireFunction(function);
        return gainOf(function);
    }

    public int next() {
        return nextToType();
    }

    public int migrate(int most) throws IllegalArgumentException {
        if (most < 1 || most > MOST_FUNCTIONS) {
            throw new IllegalArgumentException("most is not 1 to 10");
        }
        for (int moved = 0; moved < most; moved++) {
            int function = nextToType();
            if (function == NONE || gainOf(function) < 0) {
                return moved;
            }
            program.typed = with(program.typed, function);
        }
        return most;
    }

    // ---- what would be

    public int wouldBlame(int function, int type, int number)
            throws IndexOutOfBoundsException, IllegalArgumentException {
        requireFunction(function);
        requireValue(type, number);
        trial.tryOut(function, type, number, budget);
        return trial.blame;
    }

    public int wouldCost(int function, int type, int number, int budget)
            throws IndexOutOfBoundsException, IllegalArgumentException {
        requireFunction(function);
        requireValue(type, number);
        requireBudget(budget);
        trial.tryOut(function, type, number, budget);
        return trial.cost();
    }

    public int untyped(int function, int in, int out)
            throws IndexOutOfBoundsException, IllegalArgumentException {
        requireFunction(function);
        requireHints(in, out);
        return Integer.bitCount(program.untypableWith(function, in, out));
    }

    public int tollAtBest() {
        return tollWith(program.typable());
    }

    public long digest() {
        long d = DIGEST_START;
        for (int what = 0; what <= LAST_OF_MANY; what++) {
            d = mixed(d, many(what));
        }
        for (int what = 0; what <= LAST_OF_LATEST; what++) {
            d = mixed(d, latest(what));
        }
        for (int function = 0; function < program.size; function++) {
            d = mixedFunction(d, function);
        }
        d = mixed(d, next());
        return mixed(d, tollAtBest());
    }

    private long mixedFunction(long before, int function) {
        long d = before;
        for (int what = 0; what <= LAST_OF_FUNCTION; what++) {
            d = mixed(d, ofFunction(function, what));
        }
        int steps = program.functions[function].size;
        for (int place = 0; place < steps; place++) {
            d = mixed(d, stepAt(function, place));
        }
        d = mixed(d, blamed(function));
        d = mixed(d, gain(function));
        d = mixed(d, wouldBlame(function, NUMBER, 3));
        d = mixed(d, wouldBlame(function, TEXT, 3));
        return mixed(d, wouldBlame(function, FLAG, 1));
    }

    private static long mixed(long d, int v) {
        return d * DIGEST_FACTOR + v;
    }

    // ---- what a migration weighs

    /** The set is an argument, so that one sum serves what is and what would be. */
    private int tollWith(int typed) {
        int toll = 0;
        for (int caller = NONE; caller < program.size; caller++) {
            for (int callee = 0; callee < program.size; callee++) {
                if (program.guardsCall(caller, callee, typed)
                        || program.guardsGive(caller, callee, typed)) {
                    toll += LOOK_COST * books.calls[rowOf(caller)][callee];
                }
            }
        }
        return toll;
    }

    /** 0 for a typed one by itself: with it, the set is the same. */
    private int gainOf(int function) {
        return tollWith(program.typed) - tollWith(with(program.typed, function));
    }

    private int nextToType() {
        int open = program.typable() & ~program.typed;
        int best = NONE;
        int bestGain = 0;
        for (int function = 0; function < program.size; function++) {
            if (has(open, function)) {
                int gain = gainOf(function);
                if (best == NONE || gain > bestGain) {
                    best = function;
                    bestGain = gain;
                }
            }
        }
        return best;
    }

    // ---- what a call requires

    private void requireFunction(int function) {
        if (function < 0 || function >= program.size) {
            throw new IndexOutOfBoundsException("no such function");
        }
    }

    private static void requireHints(int in, int out) {
        if (in < NUMBER || in > ANY || out < NUMBER || out > ANY) {
            throw new IllegalArgumentException("a hint is not 0 to 3");
        }
    }

    private static void requireWhat(int what, int last) {
        if (what < 0 || what > last) {
            throw new IllegalArgumentException("no such question");
        }
    }

    private static void requireBudget(int budget) {
        if (budget < 0 || budget > MOST_BUDGET) {
            throw new IllegalArgumentException("the budget is not 0 to 20");
        }
    }

    private static void requireValue(int type, int number) {
        if (!isValue(type, number)) {
            throw new IllegalArgumentException("no such value");
        }
    }

    private static boolean isValue(int type, int number) {
        switch (type) {
            case NUMBER: return number >= -GREATEST && number <= GREATEST;
            case TEXT: return number >= 0 && number <= GREATEST;
            case FLAG: return number == 0 || number == 1;
            default: return false;
        }
    }

    // ---- sets of functions, a bit each

    private static boolean has(int set, int function) {
        return function != NONE && (set >> function & 1) == 1;
    }

    private static int with(int set, int function) {
        return set | 1 << function;
    }

    private static int without(int set, int function) {
        return set & ~(1 << function);
    }

    // ---- tables of calls

    /** Outside is NONE, so the rows stand one further down. */
    private static int rowOf(int caller) {
        return caller + 1;
    }

    private static int[][] newCallTable() {
        return new int[MOST_FUNCTIONS + 1][MOST_FUNCTIONS];
    }

    // ---- steps

    private static boolean isCall(int step) {
        return step >= FIRST_CALL;
    }

    /** What a step that is no call needs; ANY where it needs nothing. */
    private static int plainNeed(int step) {
        switch (step) {
            case LENGTH: return TEXT;
            case SHOW: return ANY;
            case NOT: return FLAG;
            default: return NUMBER;
        }
    }

    private static int plainGift(int step) {
        switch (step) {
            case SHOW: return TEXT;
            case TEST: return FLAG;
            case NOT: return FLAG;
            default: return NUMBER;
        }
    }

    /** One function as it is written and hinted. */
    private static final class Function {
        final int[] steps;
        int size;
        int in;
        int out;

        Function() {
            steps = new int[MOST_STEPS];
            in = ANY;
            out = ANY;
        }

        boolean mentions(int step) {
            for (int place = 0; place < size; place++) {
                if (steps[place] == step) {
                    return true;
                }
            }
            return false;
        }
    }

    /** What a check found; made once and filled again, as the room for objects is small. */
    private static final class Findings {
        int faults;
        int firstFault;
        int loose;

        void clear() {
            faults = 0;
            firstFault = NONE;
            loose = 0;
        }

        void need(int needed, int there, int place) {
            if (needed == ANY || needed == there) {
                return;
            }
            if (there == ANY) {
                loose++;
                return;
            }
            if (faults == 0) {
                firstFault = place;
            }
            faults++;
        }

        boolean areNone() {
            return faults == 0 && loose == 0;
        }
    }

    /** All functions, who of them is typed, and what checks say of them. */
    private static final class Program {
        final Function[] functions;
        final Findings findings;
        int size;
        int typed;
        int checks;

        Program() {
            functions = new Function[MOST_FUNCTIONS];
            for (int function = 0; function < MOST_FUNCTIONS; function++) {
                functions[function] = new Function();
            }
            findings = new Findings();
        }

        boolean isStep(int step) {
            return step >= 0 && step <= MOST_ADDED
                    || step >= LENGTH && step <= LESS
                    || step >= FIRST_CALL && step - FIRST_CALL < size;
        }

        int needOf(int step) {
            return isCall(step) ? functions[step - FIRST_CALL].in : plainNeed(step);
        }

        int giftOf(int step) {
            return isCall(step) ? functions[step - FIRST_CALL].out : plainGift(step);
        }

        int guessIn(Function of) {
            return of.size == 0 ? ANY : needOf(of.steps[0]);
        }

        int guessOut(Function of) {
            return of.size == 0 ? ANY : giftOf(of.steps[of.size - 1]);
        }

        Findings checked(int function) {
            Function of = functions[function];
            findings.clear();
            int there = of.in;
            for (int place = 0; place < of.size; place++) {
                int step = of.steps[place];
                findings.need(needOf(step), there, place);
                there = giftOf(step);
            }
            findings.need(of.out, there, of.size);
            return findings;
        }

        int typable() {
            int set = 0;
            for (int function = 0; function < size; function++) {
                if (checked(function).areNone()) {
                    set = with(set, function);
                }
            }
            return set;
        }

        int allFaults() {
            int faults = 0;
            for (int function = 0; function < size; function++) {
                faults += checked(function).faults;
            }
            return faults;
        }

        int callersOf(int callee) {
            int callers = 0;
            for (int function = 0; function < size; function++) {
                if (function != callee && functions[function].mentions(FIRST_CALL + callee)) {
                    callers++;
                }
            }
            return callers;
        }

        void afterStepsChanged() {
            checks++;
            dropUntypable();
        }

        /** Answers how many hints are others than before. */
        int changeHints(int function, int in, int out) {
            Function of = functions[function];
            int changed = (of.in == in ? 0 : 1) + (of.out == out ? 0 : 1);
            of.in = in;
            of.out = out;
            if (changed > 0) {
                checks += 1 + callersOf(function);
            }
            return changed;
        }

        int untypable() {
            return typed & ~typable();
        }

        int dropUntypable() {
            int dropped = untypable();
            typed &= ~dropped;
            return Integer.bitCount(dropped);
        }

        int untypableWith(int function, int in, int out) {
            Function of = functions[function];
            int inBefore = of.in;
            int outBefore = of.out;
            of.in = in;
            of.out = out;
            int set = untypable();
            of.in = inBefore;
            of.out = outBefore;
            return set;
        }

        boolean guardsCall(int caller, int callee, int typedOnes) {
            return has(typedOnes, callee) && !has(typedOnes, caller)
                    && functions[callee].in != ANY;
        }

        boolean guardsGive(int caller, int callee, int typedOnes) {
            return has(typedOnes, caller) && !has(typedOnes, callee)
                    && functions[callee].out != ANY;
        }
    }

    /**
     * One run, or what one would be: it keeps all that it finds to itself, so that
     * a run that is only asked for leaves nothing in the books.
     */
    private static final class Trial {
        final Program program;
        final int[][] calls;
        int budget;
        int type;
        int number;
        int begun;
        int looked;
        int skipped;
        int deepest;
        int failure;
        int blame;
        boolean hasSuspect;
        int suspect;

        Trial(Program ofStation) {
            program = ofStation;
            calls = newCallTable();
        }

        void tryOut(int function, int ofType, int ofNumber, int withBudget) {
            clear();
            budget = withBudget;
            type = ofType;
            number = ofNumber;
            enter(NONE, function, 1);
        }

        private void clear() {
            for (int row = 0; row <= MOST_FUNCTIONS; row++) {
                for (int callee = 0; callee < MOST_FUNCTIONS; callee++) {
                    calls[row][callee] = 0;
                }
            }
            begun = 0;
            looked = 0;
            skipped = 0;
            deepest = 0;
            failure = 0;
            blame = NONE;
            hasSuspect = false;
            suspect = NONE;
        }

        int cost() {
            return begun + LOOK_COST * looked;
        }

        private void enter(int caller, int callee, int depth) {
            if (depth > MOST_NESTED) {
                fail(TOO_DEEP, NONE);
                return;
            }
            deepest = Math.max(deepest, depth);
            calls[rowOf(caller)][callee]++;
            if (program.guardsCall(caller, callee, program.typed)) {
                guard(program.functions[callee].in, FAILED_CALL, caller);
            }
            goThrough(callee, depth);
            if (failure == 0 && program.guardsGive(caller, callee, program.typed)) {
                guard(program.functions[callee].out, FAILED_GIVE, callee);
            }
        }

        private void goThrough(int function, int depth) {
            Function of = program.functions[function];
            for (int place = 0; place < of.size && failure == 0; place++) {
                begin(function, of.steps[place], depth);
            }
        }

        private void begin(int function, int step, int depth) {
            if (begun >= MOST_BEGUN) {
                fail(TOO_LONG, NONE);
                return;
            }
            begun++;
            if (isCall(step)) {
                enter(function, step - FIRST_CALL, depth + 1);
                return;
            }
            int needed = plainNeed(step);
            if (needed != ANY && needed != type) {
                // A typed one is never to blame: who passed a guard that nobody looked at is.
                fail(FAILED_STEP, has(program.typed, function) ? suspect : function);
                return;
            }
            number = made(step);
            type = plainGift(step);
        }

        private void guard(int needed, int failureHere, int blameHere) {
            boolean holds = needed == type;
            if (looked < budget) {
                looked++;
                if (!holds) {
                    fail(failureHere, blameHere);
                }
                return;
            }
            skipped++;
            if (!holds && !hasSuspect) {
                hasSuspect = true;
                suspect = blameHere;
            }
        }

        private void fail(int withFailure, int onWhom) {
            failure = withFailure;
            blame = onWhom;
        }

        private int made(int step) {
            switch (step) {
                case LENGTH: return number;
                case SHOW: return shownLength();
                case TEST: return number > 0 ? 1 : 0;
                case NOT: return 1 - number;
                case LESS: return Math.max(-GREATEST, number - 5);
                default: return Math.min(GREATEST, number + step);
            }
        }

        private int shownLength() {
            if (type == TEXT) {
                return number;
            }
            if (type == FLAG) {
                return number == 1 ? 4 : 5;
            }
            int digits = Math.abs(number) < 10 ? 1 : Math.abs(number) < 100 ? 2 : 3;
            return number < 0 ? digits + 1 : digits;
        }
    }

    /** What is kept of all runs. */
    private static final class Books {
        final int[][] calls;
        final int[] blames;
        final int[] latest;
        int runs;
        int failures;
        int costs;

        Books() {
            calls = newCallTable();
            blames = new int[MOST_FUNCTIONS];
            latest = new int[LAST_OF_LATEST + 1];
        }

        void enter(Trial trial) {
            runs++;
            if (trial.failure != 0) {
                failures++;
            }
            if (trial.blame != NONE) {
                blames[trial.blame]++;
            }
            costs += trial.cost();
            addCalls(trial);
            keepLatest(trial);
        }

        private void addCalls(Trial trial) {
            for (int row = 0; row <= MOST_FUNCTIONS; row++) {
                for (int callee = 0; callee < MOST_FUNCTIONS; callee++) {
                    calls[row][callee] += trial.calls[row][callee];
                }
            }
        }

        private void keepLatest(Trial trial) {
            boolean failed = trial.failure != 0;
            latest[0] = trial.failure;
            latest[1] = trial.blame;
            latest[2] = trial.cost();
            latest[3] = trial.looked;
            latest[4] = trial.skipped;
            latest[5] = failed ? ANY : trial.type;
            latest[6] = failed ? 0 : trial.number;
            latest[7] = trial.deepest;
        }

        int timesCalled(int function) {
            int times = 0;
            for (int row = 0; row <= MOST_FUNCTIONS; row++) {
                times += calls[row][function];
            }
            return times;
        }
    }
}
