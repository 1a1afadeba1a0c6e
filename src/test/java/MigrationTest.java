/** Promises 17 to 19: gain, next and migrate. */
public final class MigrationTest {
    public static void main(String[] args) {
        gains();
        gainOfWhatCannotBeTyped();
        nextOne();
        nextOfEqualGains();
        nextIsOfferedWithLoss();
        migrates();
        migratesAtMost();
        refusals();
        Due.end();
    }

    /** f: number to number; g calls f twice; outside runs g three times, and f once. */
    private static TypecheckStation pair() {
        TypecheckStation x = new TypecheckStation();
        Build.function(x, Build.NUMBER, Build.NUMBER, 1);
        Build.function(x, Build.NUMBER, Build.NUMBER, Build.CALL, Build.CALL);
        x.run(1, 0, 0);
        x.run(1, 0, 0);
        x.run(1, 0, 0);
        x.run(0, 0, 0);
        return x;
    }

    private static void gains() {
        TypecheckStation x = pair();
        Due.is("f: outside once, g six times", x.gain(0), -(2 + 12));
        Due.is("g: outside thrice, f gives six times", x.gain(1), -(6 + 12));
        x.type(0, true);
        Due.is("0 if it is typed", x.gain(0), 0);
        Due.is("g saves six, and brings three", x.gain(1), 12 - 6);
        x.type(0, false);
        x.type(1, true);
        Due.is("f saves six, and brings one", x.gain(0), 12 - 2);
        x.budget(0);
        Due.is("whatever the budget is", x.gain(0), 10);
    }

    private static void gainOfWhatCannotBeTyped() {
        TypecheckStation x = pair();
        x.type(0, true);
        x.step(1, Build.LENGTH);
        Due.is("as if it was", x.gain(1), 6);
        Due.is("but it is not next", x.next(), Build.NONE);
        x.hint(1, Build.ANY, Build.NUMBER);
        Due.is("without a guard from outside", x.gain(1), 12);
    }

    private static void nextOne() {
        TypecheckStation x = pair();
        Due.is("the smaller loss", x.next(), 0);
        x.type(0, true);
        Due.is("the other one", x.next(), 1);
        x.type(1, true);
        Due.is("none is left", x.next(), Build.NONE);
        x.type(0, false);
        Due.is("the first again", x.next(), 0);
        x.hint(0, Build.TEXT, Build.NUMBER);
        Due.is("none can be", x.next(), Build.NONE);

        TypecheckStation y = new TypecheckStation();
        Build.function(y, Build.NUMBER, Build.NUMBER, 1);
        Build.function(y, Build.ANY, Build.TEXT, Build.SHOW);
        y.run(0, 0, 0);
        Due.is("the greater one is behind", y.next(), 1);
    }

    private static void nextOfEqualGains() {
        TypecheckStation x = Build.stationOf(4);
        Due.is("of equal ones the first", x.next(), 0);
        x.type(0, true);
        Due.is("then the second", x.next(), 1);
        x.hint(1, Build.ANY, Build.NUMBER);
        Due.is("the second cannot be", x.next(), 2);
    }

    private static void nextIsOfferedWithLoss() {
        TypecheckStation x = new TypecheckStation();
        Build.function(x, Build.NUMBER, Build.NUMBER, 1);
        x.run(0, 0, 0);
        Due.is("a loss", x.gain(0), -2);
        Due.is("next all the same", x.next(), 0);
        Due.is("but it is not migrated", x.migrate(1), 0);
        Due.is("it stays untyped", x.ofFunction(0, 3), 0);
    }

    private static void migrates() {
        TypecheckStation x = pair();
        Due.is("both bring a loss", x.migrate(10), 0);
        x.type(0, true);
        Due.is("one gains", x.migrate(10), 1);
        Due.is("it is typed", x.ofFunction(1, 3), 1);
        Due.is("no more", x.migrate(10), 0);

        TypecheckStation y = new TypecheckStation();
        Build.function(y, Build.ANY, Build.TEXT, Build.SHOW);
        Build.function(y, Build.NUMBER, Build.TEXT, Build.CALL);
        Build.function(y, Build.TEXT, Build.NUMBER, Build.LENGTH);
        Build.function(y, Build.FLAG, Build.NUMBER, Build.LENGTH);
        y.run(1, 0, 0);
        Due.is("a gain of 0 is enough", y.migrate(10), 2);
        Due.is("the one that shows", y.ofFunction(0, 3), 1);
        Due.is("the one with a loss is not", y.ofFunction(1, 3), 0);
        Due.is("the one that never ran", y.ofFunction(2, 3), 1);
        Due.is("the one with a fault is not", y.ofFunction(3, 3), 0);
    }

    private static void migratesAtMost() {
        TypecheckStation x = Build.stationOf(10);
        Due.is("three", x.migrate(3), 3);
        Due.is("these are typed", x.many(1), 3);
        Due.is("the fourth is next", x.next(), 3);
        Due.is("one", x.migrate(1), 1);
        Due.is("all others", x.migrate(10), 6);
        Due.is("all are", x.many(1), 10);
        TypecheckStation y = Build.stationOf(10);
        Due.is("all at once", y.migrate(10), 10);
        Due.is("all ten are", y.many(1), 10);
    }

    private static void refusals() {
        TypecheckStation x = Build.stationOf(2);
        int[] bad = {0, -1, 11, Integer.MIN_VALUE, Integer.MAX_VALUE};
        for (int most : bad) {
            Due.badArgument(x, "migrate " + most, () -> x.migrate(most));
        }
        int[] none = {-1, 2, 10, Integer.MIN_VALUE, Integer.MAX_VALUE};
        for (int function : none) {
            Due.noFunction(x, "gain of " + function, () -> x.gain(function));
        }
    }
}
