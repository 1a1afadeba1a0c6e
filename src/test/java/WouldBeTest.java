/** Promises 20 to 24: what would be, and that asking for it changes nothing. */
public final class WouldBeTest {
    public static void main(String[] args) {
        wouldBlames();
        wouldCosts();
        nothingIsChanged();
        untypeds();
        tollsAtBest();
        digestOfNew();
        digestOfAll();
        refusals();
        Due.end();
    }

    /** f: text to number, typed; g calls f, and is not. */
    private static TypecheckStation pair() {
        TypecheckStation x = new TypecheckStation();
        Build.typed(x, Build.TEXT, Build.NUMBER, Build.LENGTH);
        Build.function(x, Build.ANY, Build.ANY, Build.CALL, 1);
        return x;
    }

    private static void wouldBlames() {
        TypecheckStation x = pair();
        Due.is("nobody", x.wouldBlame(1, 1, 3), Build.NONE);
        Due.is("the one that calls", x.wouldBlame(1, 0, 3), 1);
        Due.is("outside", x.wouldBlame(0, 0, 3), Build.NONE);
        x.budget(0);
        Due.is("the one that calls, at a skipped guard", x.wouldBlame(1, 0, 3), 1);
        Due.is("outside, at a skipped guard", x.wouldBlame(0, 0, 3), Build.NONE);
        int h = Build.function(x, Build.ANY, Build.ANY, Build.NOT);
        Due.is("itself", x.wouldBlame(h, 1, 999), h);
        Due.is("itself, not", x.wouldBlame(h, 2, 1), Build.NONE);

        TypecheckStation y = new TypecheckStation();
        int f = Build.function(y, Build.ANY, Build.NUMBER);
        int g = Build.typed(y, Build.TEXT, Build.NUMBER, Build.CALL + f, 1);
        Due.is("what gives", y.wouldBlame(g, 1, 3), f);
        Due.is("outside ahead of what gives", y.wouldBlame(g, 2, 1), Build.NONE);
        y.budget(0);
        Due.is("the first skipped one is outside", y.wouldBlame(g, 2, 1), Build.NONE);
        Due.is("the first skipped one is what gives", y.wouldBlame(g, 1, 1), f);
    }

    private static void wouldCosts() {
        TypecheckStation x = pair();
        Due.is("with a guard", x.wouldCost(1, 1, 3, 20), 5);
        Due.is("with one is enough", x.wouldCost(1, 1, 3, 1), 5);
        Due.is("with none", x.wouldCost(1, 1, 3, 0), 3);
        Due.is("a guard that fails", x.wouldCost(1, 0, 3, 1), 3);
        Due.is("a skipped one that would", x.wouldCost(1, 0, 3, 0), 2);
        Due.is("outside at a guard", x.wouldCost(0, 0, 3, 1), 2);
        Due.is("the budget is kept", x.budget(5), 20);
        Due.is("its own budget alone counts", x.wouldCost(1, 1, 3, 0), 3);
        x.budget(0);
        Due.is("whatever the station's is", x.wouldCost(1, 1, 3, 20), 5);
    }

    private static void nothingIsChanged() {
        TypecheckStation x = pair();
        x.run(1, 0, 3);
        long before = x.digest();
        int mean = (int) (x.meanCost() * 1000);
        x.wouldBlame(1, 1, 3);
        x.wouldCost(1, 1, 3, 20);
        x.wouldCost(0, 0, 3, 0);
        x.untyped(0, Build.FLAG, Build.FLAG);
        x.tollAtBest();
        x.next();
        x.gain(1);
        Due.is("the digest is the same", x.digest(), before);
        Due.is("so is that it does so", x.digest(), before);
        Due.is("nothing is counted", x.counted(1, 0) + 10 * x.counted(-1, 1), 11);
        Due.is("nobody is blamed", x.blamed(1), 1);
        Due.is("the mean is the same", (int) (x.meanCost() * 1000), mean);
        Due.is("the latest run is the same", x.latest(0), 2);
        Due.is("hints are as they were", x.ofFunction(0, 1) + 10 * x.ofFunction(0, 2), 1);
        Due.is("the typed one is", x.ofFunction(0, 3), 1);
    }

    private static void untypeds() {
        TypecheckStation x = new TypecheckStation();
        int f = Build.typed(x, Build.NUMBER, Build.NUMBER, 1);
        int g = Build.typed(x, Build.NUMBER, Build.NUMBER, Build.CALL + f);
        int h = Build.function(x, Build.NUMBER, Build.NUMBER, Build.CALL + f);
        Due.is("the same hints", x.untyped(f, 0, 0), 0);
        Due.is("its in", x.untyped(f, 1, 0), 2);
        Due.is("any in: it alone is loose", x.untyped(f, 3, 0), 1);
        Due.is("any out: who calls", x.untyped(f, 0, 3), 1);
        Due.is("its out", x.untyped(f, 0, 1), 2);
        Due.is("who calls alone", x.untyped(g, 2, 0), 1);
        Due.is("an untyped one", x.untyped(h, 2, 0), 0);
        Due.is("hint does so", x.hint(f, 1, 0), 2);
        Due.is("none is typed any more", x.untyped(f, 2, 2), 0);
    }

    private static void tollsAtBest() {
        TypecheckStation x = new TypecheckStation();
        int f = Build.function(x, Build.NUMBER, Build.NUMBER, 1);
        int g = Build.function(x, Build.NUMBER, Build.ANY, Build.CALL + f, Build.CALL + f);
        int h = Build.function(x, Build.ANY, Build.TEXT, Build.LENGTH, Build.CALL + f);
        x.run(g, 0, 0);
        x.run(h, 1, 0);
        Due.is("outside to g, h to f", x.tollAtBest(), 2 + 2);
        Due.is("not as it is", x.many(8), 0);
        x.type(f, true);
        Due.is("whoever is typed now", x.tollAtBest(), 4);
        Due.is("as it is", x.many(8), 6);
        x.step(f, Build.LENGTH);
        x.hint(g, Build.NUMBER, Build.NUMBER);
        Due.is("f cannot be, g calls it", x.tollAtBest(), 2 + 4);
    }

    private static void digestOfNew() {
        long d = 58113L;
        for (int i = 0; i < 17; i++) {
            d = d * 31;
        }
        d = d * 31 - 1;
        d = d * 31;
        Due.is("digest of a new station", new TypecheckStation().digest(), d);
    }

    private static void digestOfAll() {
        TypecheckStation x = pair();
        Build.function(x, Build.NUMBER, Build.FLAG, Build.SHOW, Build.CALL + 1, Build.TEST);
        x.run(2, 0, 77);
        x.run(1, 0, 7);
        x.budget(1);
        long d = 58113L;
        for (int what = 0; what <= 8; what++) {
            d = d * 31 + x.many(what);
        }
        for (int what = 0; what <= 7; what++) {
            d = d * 31 + x.latest(what);
        }
        for (int function = 0; function < 3; function++) {
            for (int what = 0; what <= 10; what++) {
                d = d * 31 + x.ofFunction(function, what);
            }
            for (int place = 0; place < x.ofFunction(function, 0); place++) {
                d = d * 31 + x.stepAt(function, place);
            }
            d = d * 31 + x.blamed(function);
            d = d * 31 + x.gain(function);
            d = d * 31 + x.wouldBlame(function, 0, 3);
            d = d * 31 + x.wouldBlame(function, 1, 3);
            d = d * 31 + x.wouldBlame(function, 2, 1);
        }
        d = d * 31 + x.next();
        d = d * 31 + x.tollAtBest();
        Due.is("digest", x.digest(), d);
    }

    private static void refusals() {
        TypecheckStation x = Build.stationOf(1);
        int[][] bad = {{0, 1000}, {0, -1000}, {1, -1}, {1, 1000}, {2, -1}, {2, 2}, {3, 0}, {-1, 0}};
        for (int[] value : bad) {
            String what = value[0] + ":" + value[1];
            int type = value[0];
            int number = value[1];
            Due.badArgument(x, "wouldBlame " + what, () -> x.wouldBlame(0, type, number));
            Due.badArgument(x, "wouldCost " + what, () -> x.wouldCost(0, type, number, 20));
            Due.noFunction(x, "wouldBlame of none " + what, () -> x.wouldBlame(1, type, number));
            Due.noFunction(x, "wouldCost of none " + what, () -> x.wouldCost(-1, type, number, 21));
        }
        Due.badArgument(x, "budget 21", () -> x.wouldCost(0, 0, 0, 21));
        Due.badArgument(x, "budget -1", () -> x.wouldCost(0, 0, 0, -1));
        Due.noFunction(x, "wouldCost of none", () -> x.wouldCost(1, 0, 0, 0));
        int[] hints = {-1, 4, Integer.MIN_VALUE, Integer.MAX_VALUE};
        for (int hint : hints) {
            Due.badArgument(x, "untyped in " + hint, () -> x.untyped(0, hint, 0));
            Due.badArgument(x, "untyped out " + hint, () -> x.untyped(0, 0, hint));
            Due.noFunction(x, "untyped of none", () -> x.untyped(1, hint, 0));
        }
        Due.noFunction(x, "untyped of -1", () -> x.untyped(-1, 0, 0));
    }
}
