/** The boundary cases that stand in the document before its promises: a test for each sentence. */
public final class TermsEdgesTest {
    /** Languages 3 and 4 are (aa)* and (aaa)*, language 6 is aaa with aaaa. */
    private static final String NEARLY_LARGE =
        "a chain(0,0) chain(1,0) star(1) star(2) unite(0,1) chain(1,5)";
    private static final String NEARLY_LARGE_AND_FULL = NEARLY_LARGE + " a b empty none a";
    /** What is too large of these. */
    private static final String[] LARGE = {"unite(3,4)", "meet(3,4)", "chain(6,6)", "star(6)"};

    public static void main(String[] args) {
        allCalls();
        objectsApart();
        lettersAndWords();
        numbersOfLanguages();
        acceptance();
        leastAutomata();
        numbersOfStates();
        sixAndSeven();
        leastCounts();
        alike();
        numbersOfElements();
        products();
        sameAgain();
        fullRefusals();
        badBeforeLarge();
        nothingChanges();
        Check.end();
    }

    private static void allCalls() {
        Check.sentence("An object is used for at most 512 calls after it has been made");
        LetterAlgebra full = new LetterAlgebra();
        for (int call = 1; call <= 511; call++) {
            Check.due("basic, call " + call, full.basic(0), call <= 12 ? call - 1 : -2);
        }
        Check.due("count, call 512", full.count(), 12);
        // Made.of counts the list before each language, so that five take ten calls.
        LetterAlgebra large = Made.of("a b unite(0,1) chain(2,2) chain(3,3)");
        for (int call = 11; call <= 511; call++) {
            Check.due("chain, call " + call, large.chain(4, 2), -3);
        }
        Check.due("states, call 512", large.states(4), 6);
        LetterAlgebra studied = Made.of("none a chain(1,1) star(2)");
        int[] elements = {1, 3, 4, 3};
        for (int call = 9; call <= 511; call++) {
            Check.due("study, call " + call, studied.study(call % 4), elements[call % 4]);
        }
        Check.due("word, call 512", studied.word(2), Made.number("b"));
        LetterAlgebra renewed = new LetterAlgebra();
        for (int call = 1; call <= 510; call += 2) {
            Check.due("basic, call " + call, renewed.basic(call % 4), 0);
            Check.due("forget, call " + (call + 1), renewed.forget(), true);
        }
        Check.due("basic, call 511", renewed.basic(1), 0);
        Check.due("contains, call 512", renewed.contains(0, 1, 1), true);
    }

    private static void objectsApart() {
        Check.sentence("No languages, nothing studied: of an object, whatever others do");
        LetterAlgebra one = Made.of("a b");
        LetterAlgebra other = new LetterAlgebra();
        one.study(0);
        Check.due("count of the other", other.count(), 0);
        Check.due("elements of the other", other.elements(), -1);
        Made.then(other, "none");
        other.study(0);
        Check.due("states of the one", one.states(0), 3);
        Check.due("elements of the one", one.elements(), 3);
    }

    private static void lettersAndWords() {
        Check.sentence("LETTERS are a (0) and b (1)");
        LetterAlgebra x = Made.of("a b");
        Check.due("a: next for 0", x.accepts(0, x.next(0, 0, 0)), true);
        Check.due("a: next for 1", x.accepts(0, x.next(0, 0, 1)), false);
        Check.due("b: next for 0", x.accepts(1, x.next(1, 0, 0)), false);
        Check.due("b: next for 1", x.accepts(1, x.next(1, 0, 1)), true);

        Check.sentence("A WORD is a row of letters, perhaps empty");
        LetterAlgebra y = Made.of("a b empty none star(0) invert(2)");
        boolean[] due = {false, false, true, false, true, false};
        for (int i = 0; i < 6; i++) {
            Check.due("contains(" + i + ", 0, 0)", y.contains(i, 0, 0), due[i]);
            Check.due("accepts(" + i + ", 0)", y.accepts(i, 0), due[i]);
        }
    }

    private static void numbersOfLanguages() {
        Check.sentence("LANGUAGES in the list are numbered 0, 1, .. in the order in which they were made");
        LetterAlgebra z = new LetterAlgebra();
        String[] calls = {"a", "b", "empty", "none", "unite(0,1)", "meet(4,1)", "chain(0,1)", "star(6)",
            "invert(0)", "invert(3)", "unite(7,6)", "star(1)"};
        for (int i = 0; i < 12; i++) {
            Check.due(calls[i], Made.make(z, calls[i]), i);
        }
        int[] states = {3, 3, 2, 1, 3, 3, 4, 3, 3, 1, 3, 2};
        for (int i = 0; i < 12; i++) {
            Check.due("states(" + i + ")", z.states(i), states[i]);
        }

        Check.sentence("there are at most 12");
        Check.due("count()", z.count(), 12);
        for (String call : calls) {
            Check.due("the 13th, " + call, Made.make(z, call), -2);
        }
        Check.due("count()", z.count(), 12);
        Check.due("states(12)", z.states(12), -1);
    }

    private static void acceptance() {
        Check.sentence("going from state 0 by its letters, in order, ends in an accepting state");
        LetterAlgebra x = Made.of("a b chain(0,1) chain(2,0)");
        Check.due("ab has ab", Made.has(x, 2, "ab"), true);
        Check.due("ab has ba", Made.has(x, 2, "ba"), false);
        Check.due("aba has ab", Made.has(x, 3, "ab"), false);
        Check.due("aba has aba", Made.has(x, 3, "aba"), true);
        Check.due("aba has abab", Made.has(x, 3, "abab"), false);
    }

    private static void leastAutomata() {
        Check.sentence("It is the one with the least n");
        LetterAlgebra y = Made.of("a b unite(0,1) star(2) invert(0) unite(0,4) meet(0,4) chain(3,3) meet(3,0)");
        int[] states = {3, 3, 3, 1, 3, 1, 1, 1, 3};
        for (int i = 0; i < states.length; i++) {
            Check.due("states(" + i + ")", y.states(i), states[i]);
        }
        // {a, b}{a, b} and (aa)*(aa)*, where sets of states are met that do the same.
        LetterAlgebra z = Made.of("a b unite(0,1) chain(2,2) chain(0,0) star(4) chain(5,5) star(5)");
        Check.due("states of two letters", z.states(3), 4);
        Check.due("states of (aa)*(aa)*", z.states(6), 3);
        Check.due("states of (aa)**", z.states(7), 3);

        Check.sentence("So it is the only one");
        // Words with an a in them, made in three ways.
        LetterAlgebra t = Made.of("none invert(0) a b chain(1,2) chain(4,1) star(3) invert(6) chain(6,2) chain(8,1)");
        Check.due("..a..", Seen.language(t, 5), " 1,0 1,1*");
        Check.due("not b*", Seen.language(t, 7), " 1,0 1,1*");
        Check.due("b*a..", Seen.language(t, 9), " 1,0 1,1*");
    }

    private static void numbersOfStates() {
        Check.sentence("the next one for a is met before the next one for b");
        LetterAlgebra v = Made.of("a b chain(1,0) star(2)");
        Check.due("b", Seen.language(v, 1), " 1,2 1,1 1,1*");
        Check.due("ba", Seen.language(v, 2), " 1,2 1,1 3,1 1,1*");
        Check.due("(ba)*", Seen.language(v, 3), " 1,2* 1,1 0,1");

        Check.sentence("numbered in the order in which they are first met when the states 0, 1, .. are gone over");
        // aab and ba: the state of aa is met after that of b.
        LetterAlgebra w = Made.of("a b chain(1,0) chain(0,1) chain(0,3) unite(2,4)");
        Check.due("aab, ba", Seen.language(w, 5), " 1,2 3,4 5,4 4,5 4,4 4,4*");

        Check.sentence("(0 is met first)");
        LetterAlgebra u = Made.of("a b star(0) star(1) chain(0,1) star(4) chain(0,0) star(6)");
        Check.due("a*", Seen.language(u, 2), " 0,1* 1,1");
        Check.due("b*", Seen.language(u, 3), " 1,0* 1,1");
        Check.due("(ab)*", Seen.language(u, 5), " 1,2* 2,0 2,2");
        Check.due("(aa)*", Seen.language(u, 7), " 1,2* 0,2 2,2");
    }

    private static void sixAndSeven() {
        Check.sentence("A language in the list has at most 6 states: six are not too many");
        six("a b invert(0) chain(1,2) unite(3,0)");
        six("a b chain(1,0) chain(2,2) meet(3,3)");
        six("a b chain(0,0) chain(2,2)");
        six("a b invert(0) chain(2,0) chain(0,3) star(4)");
        six("a b chain(0,1) chain(2,2) invert(3)");
        six("a b unite(0,1) chain(2,2) chain(3,3) unite(4,4)");

        Check.sentence("A language in the list has at most 6 states: seven are too many");
        seven("a b chain(1,0) chain(2,1) star(3)", "unite(4,2)");
        seven("a b chain(0,0) star(2) chain(0,2) star(4)", "meet(5,3)");
        seven("a b invert(0) chain(2,1)", "chain(3,3)");
        seven("a b unite(0,1) chain(2,2) chain(3,3)", "chain(4,2)");
        seven("a b chain(0,1) star(2) chain(1,3) chain(2,4)", "star(5)");
        seven("a chain(0,0) chain(1,0) star(1) star(2)", "unite(3,4)");
        seven("a chain(0,0) chain(1,0) star(1) star(2)", "meet(3,4)");
    }

    private static void leastCounts() {
        Check.sentence("LARGE when its automaton would have more than 6 states: its least one alone counts");
        // Words of four letters and of one letter: all words can be parted into these.
        LetterAlgebra x = Made.of("a b unite(0,1) chain(2,2) chain(3,3) unite(2,4)");
        Check.due("star(5)", x.star(5), 6);
        Check.due("states(6)", x.states(6), 1);
        Check.due("invert(4)", x.invert(4), 7);
        Check.due("unite(4, 7)", x.unite(4, 7), 8);
        Check.due("states(8)", x.states(8), 1);
        Check.due("meet(4, 7)", x.meet(4, 7), 9);
        Check.due("states(9)", x.states(9), 1);
        Check.due("chain(6, 4)", x.chain(6, 4), 10);
        Check.due("states of four letters and more", x.states(10), 5);
        // Before they are brought to the least ones these go through 36, 40, 26, 14 and 15 states.
        leastByEitherLetter("unite(1,0) chain(1,2) invert(3) chain(2,2) chain(4,5) chain(6,6)", 5);
        leastByEitherLetter("star(1) chain(0,1) invert(2) chain(4,3) chain(0,5) star(6) chain(6,7)", 6);
        leastByEitherLetter("unite(1,0) chain(2,2) star(3) chain(0,3) unite(5,4) star(6)", 4);
        leastByEitherLetter("invert(1) star(0) chain(0,2) chain(1,4) chain(3,5) unite(6,4)", 6);
        leastByEitherLetter("unite(1,0) chain(2,2) chain(3,3) star(0) chain(5,1) meet(4,6)", 6);
    }

    private static void leastByEitherLetter(String calls, int states) {
        least("a b " + calls, states);
        least("b a " + calls, states);
    }

    private static void least(String calls, int states) {
        LetterAlgebra x = Made.of(calls);
        Check.due(calls + " states", x.states(x.count() - 1), states);
    }

    private static void six(String calls) {
        least(calls, 6);
        LetterAlgebra x = Made.of(calls);
        Check.due(calls + " next(.., 5, 0) is a state", x.next(x.count() - 1, 5, 0) >= 0, true);
        Check.due(calls + " next(.., 6, 0)", x.next(x.count() - 1, 6, 0), -1);
    }

    private static void seven(String calls, String last) {
        LetterAlgebra x = Made.of(calls);
        int before = x.count();
        Check.due(calls + " " + last, Made.make(x, last), -3);
        Check.due(calls + " count", x.count(), before);
    }

    private static void alike() {
        Check.sentence("ALIKE when for all words x and y: x u y is in the language exactly when x v y is");
        // The empty word and b: what begins with a needs a y to tell them apart, what ends in a
        // an x; b and bb in just the word aba need both.
        LetterAlgebra x = Made.of("none invert(0) a chain(2,1) chain(1,2) b chain(5,2) chain(2,6)");
        Check.due("study(a..)", x.study(3), 3);
        Check.due("a..: word(2)", x.word(2), Made.number("b"));
        Check.due("a..: ba is like b", x.product(2, 1), 2);
        Check.due("study(..a)", x.study(4), 3);
        Check.due("..a: word(2)", x.word(2), Made.number("b"));
        Check.due("..a: ba is like a", x.product(2, 1), 1);
        Check.due("study(aba)", x.study(7), 7);
        Check.due("aba: word(2)", x.word(2), Made.number("b"));
        Check.due("aba: bb is like aa", x.product(2, 2), 3);
    }

    private static void numbersOfElements() {
        Check.sentence("A word is LESS than another one if it is shorter, or as long and .. has a");
        LetterAlgebra y = Made.of("a b chain(0,1) star(2)");
        String[] least = {"", "a", "b", "aa", "ab", "ba"};
        Check.due("study((ab)*)", y.study(3), 6);
        for (int k = 0; k < 6; k++) {
            Check.due("word(" + k + ")", y.word(k), Made.number(least[k]));
        }

        Check.sentence("The elements are numbered .. in the order of their least words (.. empty word is 0)");
        // Where there is one a, b is like the empty word; where there is one b, a is.
        LetterAlgebra z = Made.of("a b star(1) chain(2,0) chain(3,2)");
        Check.due("study(one a)", z.study(4), 3);
        Check.due("word(0)", z.word(0), Made.number(""));
        Check.due("word(1)", z.word(1), Made.number("a"));
        Check.due("word(2)", z.word(2), Made.number("aa"));
        LetterAlgebra w = Made.of("a b star(0) chain(2,1) chain(3,2)");
        Check.due("study(one b)", w.study(4), 3);
        Check.due("word(0)", w.word(0), Made.number(""));
        Check.due("word(1)", w.word(1), Made.number("b"));
        Check.due("word(2)", w.word(2), Made.number("bb"));
    }

    private static void products() {
        Check.sentence("The PRODUCT of elements j and k is the class of the words u v, u of j and v of k");
        LetterAlgebra y = Made.of("a b chain(0,1) star(2)");
        Check.due("study((ab)*)", y.study(3), 6);
        Check.due("(ab)*: product(1, 2)", y.product(1, 2), 4);
        Check.due("(ab)*: product(2, 1)", y.product(2, 1), 5);
        Check.due("(ab)*: product(4, 4)", y.product(4, 4), 4);
    }

    private static void sameAgain() {
        Check.sentence("answers its number (a new one, also if the same language is in the list)");
        LetterAlgebra x = Made.of("a b");
        String[] again = {"a", "b", "unite(0,0)", "meet(1,1)", "invert(0)", "invert(0)", "invert(6)",
            "star(0)", "star(0)", "chain(9,9)"};
        for (int k = 0; k < again.length; k++) {
            Check.due(again[k], Made.make(x, again[k]), 2 + k);
        }
        Check.due("same(0, 2)", x.same(0, 2), true);
        Check.due("same(10, 11)", x.same(10, 11), true);
    }

    private static void fullRefusals() {
        Check.sentence("or the first of these that holds, in this order: BAD before FULL");
        LetterAlgebra full = Made.of(NEARLY_LARGE_AND_FULL);
        String[] bad = {"unite(12,0)", "unite(0,12)", "meet(12,0)", "meet(0,-1)", "chain(-1,0)", "chain(0,12)",
            "star(12)", "star(-1)", "invert(12)", "invert(-1)"};
        for (String call : bad) {
            Check.due("full, " + call, Made.make(full, call), -1);
        }
        Check.due("full, basic(4)", full.basic(4), -1);
        Check.due("full, basic(-1)", full.basic(-1), -1);

        Check.sentence("or the first of these that holds, in this order: FULL before LARGE");
        for (String call : LARGE) {
            Check.due("full, " + call, Made.make(full, call), -2);
        }
        full.forget();
        for (String call : LARGE) {
            Check.due("a place free, " + call, Made.make(full, call), -3);
        }
    }

    private static void badBeforeLarge() {
        Check.sentence("or the first of these that holds, in this order: BAD before LARGE");
        // What was in the list would be too large with itself; it is there no more.
        LetterAlgebra y = Made.of(NEARLY_LARGE);
        y.forget();
        Check.due("chain(6, 6)", y.chain(6, 6), -1);
        Check.due("star(6)", y.star(6), -1);
        y.forget();
        y.forget();
        Check.due("unite(3, 4)", y.unite(3, 4), -1);
        Check.due("meet(3, 4)", y.meet(3, 4), -1);
        Check.due("meet(4, 3)", y.meet(4, 3), -1);
    }

    private static void nothingChanges() {
        Check.sentence("changing nothing");
        changesNothing(NEARLY_LARGE, "unite(7,0)", "meet(0,7)", "chain(7,7)", "star(-1)", "invert(7)");
        changesNothing(NEARLY_LARGE, "basic(4)", "basic(-1)");
        changesNothing(NEARLY_LARGE, LARGE);
        changesNothing(NEARLY_LARGE_AND_FULL, LARGE);
        changesNothing(NEARLY_LARGE_AND_FULL, "a", "b", "empty", "none", "invert(0)");
        changesNothing(NEARLY_LARGE_AND_FULL, "basic(4)", "star(12)");
    }

    private static void changesNothing(String calls, String... refused) {
        for (String call : refused) {
            LetterAlgebra before = Made.of(calls);
            LetterAlgebra after = Made.of(calls);
            before.study(0);
            after.study(0);
            Check.due(call + " is refused", Made.make(after, call) < 0, true);
            Check.due("all that can be asked after " + call, Seen.of(after), Seen.of(before));
        }
    }
}
