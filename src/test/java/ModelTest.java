import java.util.Random;

/** Long runs of mixed calls, right and wrong ones, each asked of the class and of the model. */
public final class ModelTest {
    private static final int RUNS = 120;
    private static final int CALLS = 512;

    public static void main(String[] args) {
        for (int run = 0; run < RUNS && !Check.isAnyWrong(); run++) {
            // The seed is the run's number, so that every run of the tests asks the same.
            mixedRun(new Random(run), "run " + run + ": ");
        }
        for (int run = 0; run < RUNS && !Check.isAnyWrong(); run++) {
            everyAnswer(new Random(1000 + run), "whole run " + run + ": ");
        }
        Check.end();
    }

    private static void mixedRun(Random random, String name) {
        Renewed x = new Renewed();
        Model model = new Model();
        for (int call = 0; call < CALLS; call++) {
            int kind = random.nextInt(22);
            if (kind < 9) {
                make(x, model, random, name + "call " + call + " ");
            } else {
                ask(x, model, kind, random, name + "call " + call + " ");
            }
        }
    }

    /** A number of the list as a rule, and at times one that is not in it. */
    private static int index(Random random, int size) {
        return random.nextInt(12) == 0 ? random.nextInt(size + 4) - 2 : random.nextInt(Math.max(size, 1));
    }

    /** The one with the most states of three, else nearly all languages would be small ones. */
    private static int largeOne(Random random, Model model) {
        int best = index(random, model.count());
        for (int more = 0; more < 2; more++) {
            int other = index(random, model.count());
            best = model.states(other) > model.states(best) ? other : best;
        }
        return best;
    }

    private static void make(Renewed x, Model model, Random random, String name) {
        boolean isLarge = random.nextBoolean();
        int i = isLarge ? largeOne(random, model) : index(random, model.count());
        int j = isLarge ? largeOne(random, model) : index(random, model.count());
        int kind = random.nextInt(6) - (random.nextInt(9) == 0 ? 1 : 0);
        switch (random.nextInt(12)) {
            case 0: Check.due(name + "basic " + kind, x.change(y -> y.basic(kind)), model.basic(kind)); break;
            case 1: case 2: Check.due(name + "unite " + i + " " + j, x.change(y -> y.unite(i, j)), model.unite(i, j)); break;
            case 3: Check.due(name + "meet " + i + " " + j, x.change(y -> y.meet(i, j)), model.meet(i, j)); break;
            case 4: case 5: case 6:
                Check.due(name + "chain " + i + " " + j, x.change(y -> y.chain(i, j)), model.chain(i, j)); break;
            case 7: case 8: Check.due(name + "star " + i, x.change(y -> y.star(i)), model.star(i)); break;
            case 9: Check.due(name + "invert " + i, x.change(y -> y.invert(i)), model.invert(i)); break;
            default: Check.due(name + "forget", x.change(y -> y.forget() ? 1 : 0), model.forget() ? 1 : 0); break;
        }
        // Else most calls would find an empty list.
        if (model.count() == 0) {
            Check.due(name + "basic 0", x.change(y -> y.basic(0)), model.basic(0));
            Check.due(name + "basic 1", x.change(y -> y.basic(1)), model.basic(1));
        }
    }

    private static void ask(Renewed x, Model model, int kind, Random random, String name) {
        int i = index(random, model.count());
        int j = index(random, model.count());
        int e = index(random, model.elements());
        int f = index(random, model.elements());
        int q = index(random, 6);
        int c = index(random, 2);
        int which = index(random, 4);
        int property = index(random, 6);
        int n = random.nextInt(70) - 3;
        long letters = random.nextLong();
        switch (kind) {
            case 9: Check.due(name + "count", x.ask().count(), model.count()); break;
            case 10: Check.due(name + "states " + i, x.ask().states(i), model.states(i)); break;
            case 11: Check.due(name + "next " + i + " " + q + " " + c, x.ask().next(i, q, c), model.next(i, q, c)); break;
            case 12: Check.due(name + "accepts " + i + " " + q, x.ask().accepts(i, q), model.accepts(i, q)); break;
            case 13: Check.due(name + "contains " + i + " " + letters + " " + n,
                x.ask().contains(i, letters, n), model.contains(i, letters, n)); break;
            case 14: Check.due(name + "same " + i + " " + j, x.ask().same(i, j), model.same(i, j)); break;
            case 15: study(x, model, i, name); break;
            case 16: Check.due(name + "elements", x.ask().elements(), model.elements()); break;
            case 17: Check.due(name + "word " + e, x.ask().word(e), model.word(e)); break;
            case 18: Check.due(name + "product " + e + " " + f, x.ask().product(e, f), model.product(e, f)); break;
            case 19: Check.due(name + "related " + which + " " + e + " " + f,
                x.ask().related(which, e, f), model.related(which, e, f)); break;
            case 20: Check.due(name + "classes " + which, x.ask().classes(which), model.classes(which)); break;
            default: Check.due(name + "witness " + property, x.ask().witness(property), model.witness(property)); break;
        }
    }

    /** Fills the list and then asks all there is to ask of every language in it. */
    private static void everyAnswer(Random random, String name) {
        Renewed x = new Renewed();
        Model model = new Model();
        for (int call = 0; call < 25; call++) {
            make(x, model, random, name + "call " + call + " ");
        }
        for (int i = 0; i < model.count(); i++) {
            automaton(x, model, i, name + "language " + i + " ");
            study(x, model, i, name);
            algebra(x, model, name + "algebra " + i + " ");
            for (int j = 0; j < model.count(); j++) {
                Check.due(name + "same " + i + " " + j, x.ask().same(i, j), model.same(i, j));
            }
        }
    }

    private static void study(Renewed x, Model model, int i, String name) {
        Check.due(name + "study " + i, x.change(y -> y.study(i)), model.study(i));
    }

    static void automaton(Renewed x, Model model, int i, String name) {
        Check.due(name + "states", x.ask().states(i), model.states(i));
        for (int q = -1; q <= 6; q++) {
            Check.due(name + "accepts " + q, x.ask().accepts(i, q), model.accepts(i, q));
            for (int c = -1; c <= 2; c++) {
                Check.due(name + "next " + q + " " + c, x.ask().next(i, q, c), model.next(i, q, c));
            }
        }
    }

    static void algebra(Renewed x, Model model, String name) {
        int n = model.elements();
        Check.due(name + "elements", x.ask().elements(), n);
        for (int j = -1; j <= n; j++) {
            Check.due(name + "word " + j, x.ask().word(j), model.word(j));
            for (int k = -1; k <= n; k++) {
                Check.due(name + "product " + j + " " + k, x.ask().product(j, k), model.product(j, k));
                for (int which = -1; which <= 4; which++) {
                    Check.due(name + "related " + which + " " + j + " " + k,
                        x.ask().related(which, j, k), model.related(which, j, k));
                }
            }
        }
        for (int which = -1; which <= 6; which++) {
            Check.due(name + "classes " + which, x.ask().classes(which), model.classes(which));
            Check.due(name + "witness " + which, x.ask().witness(which), model.witness(which));
        }
    }
}
