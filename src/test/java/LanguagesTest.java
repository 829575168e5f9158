/** Promises 1 to 14: the list of languages and their automata. */
public final class LanguagesTest {
    private static final int[] WRONG = {-1, Integer.MIN_VALUE, Integer.MAX_VALUE};
    /** Language 4 is that of the words of four letters. */
    private static final String SIX_STATES = "a b unite(0,1) chain(2,2) chain(3,3)";

    public static void main(String[] args) {
        newObject();
        basic();
        unite();
        meet();
        chain();
        star();
        invert();
        forget();
        refusals();
        wrongLanguages();
        automaton();
        contains();
        same();
        Check.end();
    }

    private static void newObject() {
        LetterAlgebra x = new LetterAlgebra();
        Check.due("new count()", x.count(), 0);
        Check.due("new forget()", x.forget(), false);
        Check.due("new states(0)", x.states(0), -1);
        Check.due("new next(0, 0, 0)", x.next(0, 0, 0), -1);
        Check.due("new accepts(0, 0)", x.accepts(0, 0), false);
        Check.due("new contains(0, 0, 0)", x.contains(0, 0, 0), false);
        Check.due("new same(0, 0)", x.same(0, 0), false);
        Check.due("new study(0)", x.study(0), -1);
        Check.due("new elements()", x.elements(), -1);
        Check.due("new word(0)", x.word(0), -1);
        Check.due("new product(0, 0)", x.product(0, 0), -1);
        for (int which = -1; which <= 6; which++) {
            Check.due("new related(" + which + ", 0, 0)", x.related(which, 0, 0), false);
            Check.due("new classes(" + which + ")", x.classes(which), -1);
            Check.due("new witness(" + which + ")", x.witness(which), -2);
        }
    }

    private static void basic() {
        LetterAlgebra x = Made.of("a b empty none");
        int[] sizes = {3, 3, 2, 1};
        String[] words = {"", "a", "b", "aa", "ab", "ba", "bb"};
        String[] only = {"a", "b", "", "-"};
        for (int i = 0; i < 4; i++) {
            Check.due("states of basic " + i, x.states(i), sizes[i]);
            for (String word : words) {
                Check.due("basic " + i + " has " + word, Made.has(x, i, word), word.equals(only[i]));
            }
        }
        for (int kind : WRONG) {
            Check.due("basic(" + kind + ")", x.basic(kind), -1);
        }
        Check.due("basic(4)", x.basic(4), -1);
        Check.due("count after wrong kinds", x.count(), 4);
    }

    private static void unite() {
        LetterAlgebra x = Made.of("a b unite(0,1) unite(0,0) none unite(1,4) empty unite(2,6)");
        hasJust(x, 2, "a", "b");
        hasJust(x, 3, "a");
        hasJust(x, 5, "b");
        hasJust(x, 7, "", "a", "b");
    }

    private static void meet() {
        LetterAlgebra x = Made.of("a b meet(0,1) unite(0,1) meet(3,1) meet(3,3) star(0) star(1) meet(6,7)");
        hasJust(x, 2);
        hasJust(x, 4, "b");
        hasJust(x, 5, "a", "b");
        hasJust(x, 8, "");
    }

    private static void chain() {
        LetterAlgebra x = Made.of("a b chain(0,1) chain(0,0) empty none chain(4,1) chain(1,4) chain(5,0) chain(0,5)");
        hasJust(x, 2, "ab");
        hasJust(x, 3, "aa");
        hasJust(x, 6, "b");
        hasJust(x, 7, "b");
        hasJust(x, 8);
        hasJust(x, 9);
        LetterAlgebra y = Made.of("a b empty unite(0,2) unite(1,2) chain(3,4) chain(3,3)");
        hasJust(y, 5, "", "a", "b", "ab");
        hasJust(y, 6, "", "a", "aa");
        LetterAlgebra z = Made.of("a b star(0) chain(2,0) chain(2,1) chain(0,2)");
        Check.due("a*a is aa*", z.same(3, 5), true);
        Check.due("a*b has aaab", Made.has(z, 4, "aaab"), true);
        Check.due("a*b has aba", Made.has(z, 4, "aba"), false);
    }

    private static void star() {
        LetterAlgebra x = Made.of("a none star(1) empty star(3) star(0) star(5) chain(0,0) star(7) chain(7,0) unite(7,9) star(10)");
        hasJust(x, 2, "");
        hasJust(x, 4, "");
        hasJust(x, 5, "", "a", "aa", "aaa", "aaaa");
        Check.due("star of star", x.same(5, 6), true);
        hasJust(x, 8, "", "aa", "aaaa");
        hasJust(x, 11, "", "aa", "aaa", "aaaa");
        // State 0 is met again here without the empty word being in the language that is starred.
        LetterAlgebra y = Made.of("a b star(1) chain(2,0) star(3)");
        Check.due("(b*a)* has the empty word", Made.has(y, 4, ""), true);
        Check.due("(b*a)* has b", Made.has(y, 4, "b"), false);
        Check.due("(b*a)* has bbaba", Made.has(y, 4, "bbaba"), true);
        Check.due("(b*a)* has abb", Made.has(y, 4, "abb"), false);
    }

    private static void invert() {
        LetterAlgebra x = Made.of("a invert(0) none invert(2) invert(3) invert(1)");
        Check.due("all but a has a", Made.has(x, 1, "a"), false);
        Check.due("all but a has the empty word", Made.has(x, 1, ""), true);
        Check.due("all but a has b", Made.has(x, 1, "b"), true);
        Check.due("all but a has aa", Made.has(x, 1, "aa"), true);
        Check.due("states of all but a", x.states(1), 3);
        Check.due("all words have abba", Made.has(x, 3, "abba"), true);
        Check.due("inverted twice", x.same(2, 4), true);
        Check.due("inverted twice, a", x.same(0, 5), true);
    }

    private static void forget() {
        LetterAlgebra x = Made.of("a b chain(0,1)");
        Check.due("forget()", x.forget(), true);
        Check.due("count() after it", x.count(), 2);
        Check.due("states(2) after it", x.states(2), -1);
        Check.due("contains(2) after it", Made.has(x, 2, "ab"), false);
        Check.due("the next number", x.star(1), 2);
        hasJust(x, 2, "", "b", "bb", "bbb", "bbbb");
        hasJust(x, 0, "a");
        Check.due("forget()", x.forget() && x.forget() && x.forget(), true);
        Check.due("forget() of nothing", x.forget(), false);
        Check.due("count() of nothing", x.count(), 0);
    }

    /** BAD goes before FULL, FULL before LARGE. */
    private static void refusals() {
        LetterAlgebra x = Made.of(SIX_STATES);
        Check.due("states of four letters", x.states(4), 6);
        Check.due("chain to five letters", x.chain(4, 2), -3);
        Check.due("chain to eight letters", x.chain(4, 4), -3);
        Check.due("chain of LARGE and none", x.chain(4, 5), -1);
        Check.due("count() after LARGE", x.count(), 5);
        Made.then(x, "a a a a a a a");
        Check.due("count() when full", x.count(), 12);
        Check.due("full basic(0)", x.basic(0), -2);
        Check.due("full basic(4)", x.basic(4), -1);
        Check.due("full basic(-1)", x.basic(-1), -1);
        Check.due("full unite(0, 1)", x.unite(0, 1), -2);
        Check.due("full meet(0, 1)", x.meet(0, 1), -2);
        Check.due("full chain(4, 2)", x.chain(4, 2), -2);
        Check.due("full star(4)", x.star(4), -2);
        Check.due("full invert(4)", x.invert(4), -2);
        Check.due("full unite(12, 0)", x.unite(12, 0), -1);
        Check.due("full meet(0, 12)", x.meet(0, 12), -1);
        Check.due("full chain(0, 12)", x.chain(0, 12), -1);
        Check.due("full star(12)", x.star(12), -1);
        Check.due("full invert(12)", x.invert(12), -1);
        Check.due("count() still", x.count(), 12);
        Check.due("a place again", x.forget(), true);
        Check.due("LARGE with a place", x.chain(4, 2), -3);
        Check.due("the last place", x.invert(4), 11);
        largeByEachOperation();
    }

    private static void largeByEachOperation() {
        LetterAlgebra x = Made.of("a chain(0,0) chain(1,0) star(1) star(2)");
        Check.due("states of (aa)*", x.states(3), 3);
        Check.due("states of (aaa)*", x.states(4), 4);
        Check.due("unite over six states", x.unite(3, 4), -3);
        Check.due("meet over six states", x.meet(3, 4), -3);
        Check.due("count() after them", x.count(), 5);
        LetterAlgebra y = Made.of("a chain(0,0) unite(0,1) chain(1,2)");
        Check.due("states of aaa and aaaa", y.states(3), 6);
        Check.due("star over six states", y.star(3), -3);
        Check.due("invert with six states", y.invert(3), 4);
        Check.due("states of it", y.states(4), 6);
    }

    private static void wrongLanguages() {
        LetterAlgebra x = Made.of("a b");
        int[] wrong = {-1, 2, 11, 12, Integer.MIN_VALUE, Integer.MAX_VALUE};
        for (int i : wrong) {
            Check.due("unite(" + i + ", 0)", x.unite(i, 0), -1);
            Check.due("unite(0, " + i + ")", x.unite(0, i), -1);
            Check.due("meet(" + i + ", 0)", x.meet(i, 0), -1);
            Check.due("meet(0, " + i + ")", x.meet(0, i), -1);
            Check.due("chain(" + i + ", 0)", x.chain(i, 0), -1);
            Check.due("chain(0, " + i + ")", x.chain(0, i), -1);
            Check.due("star(" + i + ")", x.star(i), -1);
            Check.due("invert(" + i + ")", x.invert(i), -1);
            Check.due("states(" + i + ")", x.states(i), -1);
            Check.due("next(" + i + ", 0, 0)", x.next(i, 0, 0), -1);
            Check.due("accepts(" + i + ", 1)", x.accepts(i, 1), false);
            Check.due("contains(" + i + ", 0, 1)", x.contains(i, 0, 1), false);
            Check.due("same(" + i + ", 0)", x.same(i, 0), false);
            Check.due("same(0, " + i + ")", x.same(0, i), false);
            Check.due("same(" + i + ", itself)", x.same(i, i), false);
            Check.due("study(" + i + ")", x.study(i), -1);
            Check.due("count()", x.count(), 2);
        }
    }

    /** The numbering: the next state for a is met before that for b. */
    private static void automaton() {
        LetterAlgebra x = Made.of("a b chain(1,0)");
        steps(x, 0, new int[] {1, 2, 2, 2, 2, 2}, 1);
        steps(x, 1, new int[] {1, 2, 1, 1, 1, 1}, 2);
        steps(x, 2, new int[] {1, 2, 1, 1, 3, 1, 1, 1}, 3);
        for (int q : new int[] {-1, 3, 6, Integer.MIN_VALUE, Integer.MAX_VALUE}) {
            Check.due("next(0, " + q + ", 0)", x.next(0, q, 0), -1);
            Check.due("accepts(0, " + q + ")", x.accepts(0, q), false);
            Check.due("accepts of an inverted one", Made.of("none invert(0)").accepts(1, q), false);
        }
        for (int c : new int[] {-1, 2, Integer.MIN_VALUE, Integer.MAX_VALUE}) {
            Check.due("next(0, 0, " + c + ")", x.next(0, 0, c), -1);
            Check.due("next(0, 1, " + c + ")", x.next(0, 1, c), -1);
        }
    }

    private static void steps(LetterAlgebra x, int i, int[] want, int accepting) {
        Check.due("states(" + i + ")", x.states(i), want.length / 2);
        for (int q = 0; 2 * q < want.length; q++) {
            Check.due("next(" + i + ", " + q + ", 0)", x.next(i, q, 0), want[2 * q]);
            Check.due("next(" + i + ", " + q + ", 1)", x.next(i, q, 1), want[2 * q + 1]);
            Check.due("accepts(" + i + ", " + q + ")", x.accepts(i, q), q == accepting);
        }
    }

    private static void contains() {
        // 3: all words that end in b; 6: those that begin with b; 7: the empty word.
        LetterAlgebra x = Made.of("none invert(0) b chain(1,2) a star(4) chain(2,1) empty");
        Check.due("n 64, last letter b", x.contains(3, Long.MIN_VALUE, 64), true);
        Check.due("n 64, last letter a", x.contains(3, Long.MAX_VALUE, 64), false);
        Check.due("n 63, last letter b", x.contains(3, 1L << 62, 63), true);
        Check.due("n 63, later bits", x.contains(3, Long.MIN_VALUE, 63), false);
        Check.due("n 33, last letter b", x.contains(3, 1L << 32, 33), true);
        Check.due("n 33, last letter a", x.contains(3, 1L, 33), false);
        Check.due("first letter b", x.contains(6, 1, 64), true);
        Check.due("first letter a", x.contains(6, -2, 64), false);
        Check.due("a alone, later bits", x.contains(4, -2, 1), true);
        Check.due("n 0, any bits", x.contains(7, -1, 0), true);
        for (int n : new int[] {-1, 65, Integer.MIN_VALUE, Integer.MAX_VALUE}) {
            Check.due("all words, n " + n, x.contains(1, 0, n), false);
        }
        Check.due("all words, n 64", x.contains(1, 0, 64), true);
        Check.due("a*, n 64", x.contains(5, 0, 64), true);
        Check.due("a*, n 64, last letter b", x.contains(5, Long.MIN_VALUE, 64), false);
    }

    private static void same() {
        LetterAlgebra x = Made.of("a b unite(0,1) unite(1,0) star(2) none invert(5) a");
        Check.due("same by either order", x.same(2, 3), true);
        Check.due("same by star and invert", x.same(4, 6), true);
        Check.due("same, made twice", x.same(0, 7) && x.same(7, 0), true);
        Check.due("same with itself", x.same(0, 0), true);
        Check.due("as many states", x.same(0, 1), false);
        Check.due("only acceptance differs", x.same(5, 6), false);
        // Two states each, the first one accepting: the empty word, and the words of even length.
        LetterAlgebra y = Made.of("a b unite(0,1) chain(2,2) star(3) empty");
        Check.due("states of both", y.states(4) + 10 * y.states(5), 22);
        Check.due("only steps differ", y.same(4, 5), false);
    }

    /** Looks at all words of up to four letters. */
    private static void hasJust(LetterAlgebra x, int i, String... words) {
        for (int number = 1; number < 32; number++) {
            String word = Integer.toBinaryString(number).substring(1).replace('0', 'a').replace('1', 'b');
            boolean due = false;
            for (String one : words) {
                due |= one.equals(word);
            }
            Check.due("language " + i + " has '" + word + "'", Made.has(x, i, word), due);
        }
    }
}
