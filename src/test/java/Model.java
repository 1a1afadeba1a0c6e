import java.util.ArrayList;
import java.util.HashMap;
import java.util.List;
import java.util.Map;
import java.util.TreeSet;

/**
 * A second writing of the document, as plain as its sentences and without thrift: it keeps every
 * call of every run, and works out all answers from these lists each time.
 */
final class Model {
    static final int NONE = -1;
    static final int ANY = 3;

    /** A run that has ended with a failure. */
    private static final class Failed extends RuntimeException {
        private static final long serialVersionUID = 1L;
        final int kind;
        final int blamed;

        Failed(int kind, int blamed) {
            super(null, null, false, false);
            this.kind = kind;
            this.blamed = blamed;
        }
    }

    /** One run, or what it would be. */
    final class Run {
        final List<int[]> calls = new ArrayList<>();
        final List<Integer> blamesOfSkipped = new ArrayList<>();
        final int budget;
        int type;
        int value;
        int steps;
        int looked;
        int skipped;
        int most;
        int failure;
        int blamed = NONE;
        boolean isBlameOfSkipped;

        Run(int function, int type, int value, int budget) {
            this.budget = budget;
            this.type = type;
            this.value = value;
            try {
                call(NONE, function, 1);
            } catch (Failed end) {
                failure = end.kind;
                blamed = end.blamed;
                this.type = ANY;
                this.value = 0;
            }
        }

        int cost() {
            return steps + 2 * looked;
        }

        private void call(int caller, int callee, int nested) {
            if (nested == 13) {
                throw new Failed(4, NONE);
            }
            most = Math.max(most, nested);
            calls.add(new int[] {caller, callee});
            boolean callerTyped = typed.contains(caller);
            boolean calleeTyped = typed.contains(callee);
            if (calleeTyped && !callerTyped && in.get(callee) != ANY) {
                guard(in.get(callee), new Failed(2, caller));
            }
            for (int step : steps(callee)) {
                perform(callee, step, nested);
            }
            if (callerTyped && !calleeTyped && out.get(callee) != ANY) {
                guard(out.get(callee), new Failed(3, callee));
            }
        }

        private List<Integer> steps(int function) {
            return written.get(function);
        }

        private void guard(int due, Failed otherwise) {
            boolean isLookedAt = looked < budget;
            if (isLookedAt) {
                looked++;
            } else {
                skipped++;
            }
            if (due == type) {
                return;
            }
            if (isLookedAt) {
                throw otherwise;
            }
            blamesOfSkipped.add(otherwise.blamed);
        }

        private void perform(int function, int step, int nested) {
            if (steps == 200) {
                throw new Failed(5, NONE);
            }
            steps++;
            if (step >= 40) {
                call(function, step - 40, nested + 1);
                return;
            }
            int need = NEEDS.getOrDefault(step, 0);
            if (need != ANY && need != type) {
                isBlameOfSkipped = typed.contains(function);
                throw new Failed(1, isBlameOfSkipped ? blamesOfSkipped.get(0) : function);
            }
            int old = value;
            if (step == 21) {
                value = shown(type, old);
            } else if (step == 22) {
                value = old > 0 ? 1 : 0;
            } else if (step == 23) {
                value = old == 1 ? 0 : 1;
            } else if (step == 24) {
                value = old - 5 < -999 ? -999 : old - 5;
            } else if (step < 10) {
                value = old + step > 999 ? 999 : old + step;
            }
            type = GIVES.getOrDefault(step, 0);
        }
    }

    private static final Map<Integer, Integer> NEEDS = new HashMap<>();
    private static final Map<Integer, Integer> GIVES = new HashMap<>();

    static {
        NEEDS.put(20, 1);
        NEEDS.put(21, ANY);
        NEEDS.put(23, 2);
        GIVES.put(21, 1);
        GIVES.put(22, 2);
        GIVES.put(23, 2);
    }

    final List<List<Integer>> written = new ArrayList<>();
    final List<Integer> in = new ArrayList<>();
    final List<Integer> out = new ArrayList<>();
    final TreeSet<Integer> typed = new TreeSet<>();
    final List<Run> runs = new ArrayList<>();
    int budget = 20;
    int checks;

    private static int shown(int type, int value) {
        if (type == 0) {
            return Integer.toString(value).length();
        }
        return type == 1 ? value : Boolean.toString(value == 1).length();
    }

    // ---- what exceptions are due

    private static void outside(boolean isSo) {
        if (isSo) {
            throw new IndexOutOfBoundsException();
        }
    }

    private static void bad(boolean isSo) {
        if (isSo) {
            throw new IllegalArgumentException();
        }
    }

    private static void state(boolean isSo) {
        if (isSo) {
            throw new IllegalStateException();
        }
    }

    private boolean isNone(int function) {
        return function < 0 || function >= written.size();
    }

    private static boolean isNoValue(int type, int value) {
        return type != 0 && type != 1 && type != 2
                || type == 0 && (value < -999 || value > 999)
                || type == 1 && (value < 0 || value > 999)
                || type == 2 && value != 0 && value != 1;
    }

    // ---- functions

    int function() {
        state(written.size() == 10);
        written.add(new ArrayList<>());
        in.add(ANY);
        out.add(ANY);
        return written.size() - 1;
    }

    int step(int function, int step) {
        outside(isNone(function));
        boolean isPlain = step >= 0 && step <= 9 || step >= 20 && step <= 24;
        bad(!isPlain && (step < 40 || step > 49 || isNone(step - 40)));
        state(written.get(function).size() == 6);
        written.get(function).add(step);
        checks++;
        settle();
        return written.get(function).size();
    }

    int unstep(int function) {
        outside(isNone(function));
        List<Integer> steps = written.get(function);
        state(steps.isEmpty());
        int step = steps.remove(steps.size() - 1);
        checks++;
        settle();
        return step;
    }

    int hint(int function, int newIn, int newOut) {
        outside(isNone(function));
        bad(newIn < 0 || newIn > 3 || newOut < 0 || newOut > 3);
        int before = typed.size();
        setHints(function, newIn, newOut);
        return before - typed.size();
    }

    int adopt(int function) {
        outside(isNone(function));
        int guessIn = guess(function, 7);
        int guessOut = guess(function, 8);
        int oldIn = in.get(function);
        int oldOut = out.get(function);
        setHints(function, oldIn == ANY ? guessIn : oldIn, oldOut == ANY ? guessOut : oldOut);
        int changed = 0;
        if (in.get(function) != oldIn) {
            changed++;
        }
        if (out.get(function) != oldOut) {
            changed++;
        }
        return changed;
    }

    private void setHints(int function, int newIn, int newOut) {
        if (newIn != in.get(function) || newOut != out.get(function)) {
            checks += 1 + callers(function).size();
        }
        in.set(function, newIn);
        out.set(function, newOut);
        settle();
    }

    private void settle() {
        typed.retainAll(typable());
    }

    boolean type(int function, boolean isTyped) {
        outside(isNone(function));
        state(isTyped && !typable().contains(function));
        boolean was = typed.contains(function);
        if (isTyped) {
            typed.add(function);
        } else {
            typed.remove(function);
        }
        return was;
    }

    int stepAt(int function, int place) {
        outside(isNone(function));
        outside(place < 0 || place >= written.get(function).size());
        return written.get(function).get(place);
    }

    int ofFunction(int function, int what) {
        outside(isNone(function));
        bad(what < 0 || what > 10);
        List<Integer> faults = new ArrayList<>();
        List<Integer> loose = new ArrayList<>();
        check(function, faults, loose);
        int[] all = {
            written.get(function).size(), in.get(function), out.get(function),
            typed.contains(function) ? 1 : 0,
            faults.size(), faults.isEmpty() ? NONE : faults.get(0), loose.size(),
            guess(function, 7), guess(function, 8),
            callers(function).size(), timesCalled(function)};
        return all[what];
    }

    private int need(int step) {
        return step >= 40 ? in.get(step - 40) : NEEDS.getOrDefault(step, 0);
    }

    private int gift(int step) {
        return step >= 40 ? out.get(step - 40) : GIVES.getOrDefault(step, 0);
    }

    private void check(int function, List<Integer> faults, List<Integer> loose) {
        List<Integer> needs = new ArrayList<>();
        List<Integer> comes = new ArrayList<>();
        comes.add(in.get(function));
        for (int step : written.get(function)) {
            needs.add(need(step));
            comes.add(gift(step));
        }
        needs.add(out.get(function));
        for (int place = 0; place < needs.size(); place++) {
            int need = needs.get(place);
            int there = comes.get(place);
            if (need != ANY && there == ANY) {
                loose.add(place);
            } else if (need != ANY && need != there) {
                faults.add(place);
            }
        }
    }

    private TreeSet<Integer> typable() {
        TreeSet<Integer> all = new TreeSet<>();
        for (int function = 0; function < written.size(); function++) {
            List<Integer> wrong = new ArrayList<>();
            check(function, wrong, wrong);
            if (wrong.isEmpty()) {
                all.add(function);
            }
        }
        return all;
    }

    private int guess(int function, int what) {
        List<Integer> steps = written.get(function);
        if (steps.isEmpty()) {
            return ANY;
        }
        return what == 7 ? need(steps.get(0)) : gift(steps.get(steps.size() - 1));
    }

    private TreeSet<Integer> callers(int callee) {
        TreeSet<Integer> all = new TreeSet<>();
        for (int function = 0; function < written.size(); function++) {
            if (written.get(function).contains(40 + callee)) {
                all.add(function);
            }
        }
        all.remove(callee);
        return all;
    }

    private int timesCalled(int function) {
        int times = 0;
        for (int caller = NONE; caller < written.size(); caller++) {
            times += times(caller, function);
        }
        return times;
    }

    private int times(int caller, int callee) {
        int times = 0;
        for (Run run : runs) {
            for (int[] call : run.calls) {
                if (call[0] == caller && call[1] == callee) {
                    times++;
                }
            }
        }
        return times;
    }

    int many(int what) {
        bad(what < 0 || what > 8);
        int faults = 0;
        for (int function = 0; function < written.size(); function++) {
            faults += ofFunction(function, 4);
        }
        int failures = 0;
        int costs = 0;
        for (Run run : runs) {
            failures += run.failure == 0 ? 0 : 1;
            costs += run.cost();
        }
        int[] all = {written.size(), typed.size(), typable().size(), faults, checks,
            runs.size(), failures, costs, toll(typed)};
        return all[what];
    }

    // ---- runs

    int budget(int newBudget) {
        bad(newBudget < 0 || newBudget > 20);
        int before = budget;
        budget = newBudget;
        return before;
    }

    int run(int function, int type, int value) {
        outside(isNone(function));
        bad(isNoValue(type, value));
        Run run = new Run(function, type, value, budget);
        runs.add(run);
        return run.failure;
    }

    int latest(int what) {
        bad(what < 0 || what > 7);
        if (runs.isEmpty()) {
            return 0;
        }
        Run run = runs.get(runs.size() - 1);
        int[] all = {run.failure, run.blamed, run.cost(), run.looked, run.skipped,
            run.type, run.value, run.most};
        return all[what];
    }

    int counted(int one, int other) {
        outside(one != NONE && isNone(one));
        outside(isNone(other));
        return times(one, other);
    }

    int blamed(int function) {
        outside(isNone(function));
        int times = 0;
        for (Run run : runs) {
            times += run.blamed == function ? 1 : 0;
        }
        return times;
    }

    double meanCost() {
        return runs.isEmpty() ? 0.0 : (double) many(7) / runs.size();
    }

    // ---- migration

    private int toll(TreeSet<Integer> whoIsTyped) {
        int toll = 0;
        for (Run run : runs) {
            for (int[] call : run.calls) {
                boolean callerTyped = whoIsTyped.contains(call[0]);
                boolean calleeTyped = whoIsTyped.contains(call[1]);
                int hint = calleeTyped ? in.get(call[1]) : out.get(call[1]);
                toll += callerTyped != calleeTyped && hint != ANY ? 2 : 0;
            }
        }
        return toll;
    }

    int gain(int function) {
        outside(isNone(function));
        TreeSet<Integer> then = new TreeSet<>(typed);
        then.add(function);
        return toll(typed) - toll(then);
    }

    int next() {
        int next = NONE;
        for (int function : typable().descendingSet()) {
            if (!typed.contains(function) && (next == NONE || gain(function) >= gain(next))) {
                next = function;
            }
        }
        return next;
    }

    int migrate(int most) {
        bad(most < 1 || most > 10);
        int done = 0;
        while (done < most && next() != NONE && gain(next()) >= 0) {
            typed.add(next());
            done++;
        }
        return done;
    }

    // ---- what would be

    int wouldBlame(int function, int type, int value) {
        outside(isNone(function));
        bad(isNoValue(type, value));
        return new Run(function, type, value, budget).blamed;
    }

    int wouldCost(int function, int type, int value, int withBudget) {
        outside(isNone(function));
        bad(isNoValue(type, value));
        bad(withBudget < 0 || withBudget > 20);
        return new Run(function, type, value, withBudget).cost();
    }

    int untyped(int function, int newIn, int newOut) {
        outside(isNone(function));
        bad(newIn < 0 || newIn > 3 || newOut < 0 || newOut > 3);
        int oldIn = in.set(function, newIn);
        int oldOut = out.set(function, newOut);
        TreeSet<Integer> lost = new TreeSet<>(typed);
        lost.removeAll(typable());
        in.set(function, oldIn);
        out.set(function, oldOut);
        return lost.size();
    }

    int tollAtBest() {
        return toll(typable());
    }

    long digest() {
        List<Integer> all = new ArrayList<>();
        for (int what = 0; what <= 8; what++) {
            all.add(many(what));
        }
        for (int what = 0; what <= 7; what++) {
            all.add(latest(what));
        }
        for (int function = 0; function < written.size(); function++) {
            for (int what = 0; what <= 10; what++) {
                all.add(ofFunction(function, what));
            }
            all.addAll(written.get(function));
            all.add(blamed(function));
            all.add(gain(function));
            all.add(wouldBlame(function, 0, 3));
            all.add(wouldBlame(function, 1, 3));
            all.add(wouldBlame(function, 2, 1));
        }
        all.add(next());
        all.add(tollAtBest());
        long d = 58113;
        for (int v : all) {
            d = d * 31 + v;
        }
        return d;
    }
}
