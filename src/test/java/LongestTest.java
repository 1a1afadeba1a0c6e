/** Stations that are used for all of their 512 calls, with the dearest calls that there are. */
public final class LongestTest {
    private static final int ALL_CALLS = 512;
    private static final int RUNS = 460;

    public static void main(String[] args) {
        Due.sentence("An object is used for at most 512 calls after it has been made");
        dearestRuns();
        deepestRuns();
        refusedCalls();
        dearestQuestions();
        Due.end();
    }

    /** Writes five functions in 34 calls; a run of 4 takes 200 steps and comes to 27 guards of 0. */
    private static TypecheckStation dearest() {
        TypecheckStation x = Build.stationOf(5);
        for (int i = 0; i < 6; i++) {
            x.step(0, 0);
            x.step(1, 40);
            x.step(2, i < 4 ? 41 : 40);
            x.step(3, i == 0 ? 42 : i == 1 ? 40 : 0);
        }
        x.step(4, 43);
        x.step(4, 9);
        x.hint(0, 0, 0);
        x.hint(3, 0, 3);
        x.type(0, true);
        return x;
    }

    private static void dearestRuns() {
        TypecheckStation x = dearest();
        int calls = 34;
        for (int i = 0; i < RUNS; i++) {
            Due.is("a run", x.run(4, 0, 999), 0);
        }
        calls += RUNS;
        Due.is("runs", x.many(5), RUNS);
        Due.is("failures", x.many(6), 0);
        Due.is("costs", x.many(7), 240 * RUNS);
        Due.is("toll", x.many(8), 2 * 27 * RUNS);
        Due.isDouble("mean", x.meanCost(), 240.0);
        Due.is("1 to 0", x.counted(1, 0), 24 * RUNS);
        Due.is("2 to 0", x.counted(2, 0), 2 * RUNS);
        Due.is("3 to 0", x.counted(3, 0), RUNS);
        Due.is("outside to 4", x.counted(-1, 4), RUNS);
        Due.is("0 in all", x.ofFunction(0, 10), 27 * RUNS);
        Due.is("gain of 1, which cannot be typed", x.gain(1), 2 * 24 * RUNS);
        Due.is("gain of 3", x.gain(3), 2 * RUNS - 2 * RUNS);
        calls += 12;
        while (calls < ALL_CALLS - 1) {
            Due.is("the latest value", x.latest(6), 999);
            calls++;
        }
        Due.is("the last call of all", x.wouldCost(4, 0, -999, 20), 240);
    }

    private static void deepestRuns() {
        TypecheckStation x = Build.stationOf(10);
        for (int i = 0; i < 10; i++) {
            x.step(i, 40 + (i + 1) % 10);
        }
        for (int i = 0; i < 480; i++) {
            Due.is("a run without an end", x.run(i % 10, i % 3, i % 2), 4);
        }
        Due.is("failures", x.many(6), 480);
        Due.is("costs", x.many(7), 12 * 480);
        Due.is("from one to the next", x.counted(0, 1), 528);
        Due.is("from outside", x.counted(-1, 9), 48);
        Due.is("in all", x.ofFunction(5, 10), 12 * 48);
        Due.is("nobody is blamed", x.blamed(0), 0);
    }

    private static void refusedCalls() {
        TypecheckStation x = Build.stationOf(1);
        int thrown = 0;
        for (int i = 0; i < 510; i++) {
            try {
                x.run(0, 2, 2);
            } catch (IllegalArgumentException e) {
                thrown++;
            }
        }
        Due.is("all are refused", thrown, 510);
        Due.is("the last call of all", x.many(5), 0);
    }

    private static void dearestQuestions() {
        TypecheckStation x = dearest();
        x.run(4, 0, 1);
        long digest = x.digest();
        for (int i = 0; i < 470; i++) {
            Due.is("the digest again", x.digest(), digest);
        }
    }
}
