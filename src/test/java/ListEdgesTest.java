/** The boundary cases of promises 1 to 14: a test for each sentence that names one. */
public final class ListEdgesTest {
    private static final int LOW = Integer.MIN_VALUE;
    private static final int HIGH = Integer.MAX_VALUE;
    /** Numbers that are none of a list of two. */
    private static final int[] NOT_OF_TWO = {-1, 2, 3, 11, 12, 32, 64, LOW, HIGH};

    public static void main(String[] args) {
        newObject();
        basic();
        unite();
        meet();
        chain();
        star();
        invert();
        forget();
        count();
        states();
        next();
        accepts();
        containsEdges();
        containsRefusals();
        same();
        Check.end();
    }

    private static void newObject() {
        Check.sentence("1: No languages");
        LetterAlgebra x = new LetterAlgebra();
        Check.due("count()", x.count(), 0);
        Check.due("states(0)", x.states(0), -1);
        Check.due("next(0, 0, 0)", x.next(0, 0, 0), -1);
        Check.due("same(0, 0)", x.same(0, 0), false);
        Check.due("forget()", x.forget(), false);
        for (String call : new String[] {"unite(0,0)", "meet(0,0)", "chain(0,0)", "star(0)", "invert(0)"}) {
            Check.due(call, Made.make(x, call), -1);
        }
        Check.due("study(0)", x.study(0), -1);
        Check.due("basic(0)", x.basic(0), 0);

        Check.sentence("1: nothing studied");
        LetterAlgebra y = Made.of("a b");
        Check.due("elements()", y.elements(), -1);
        Check.due("word(0)", y.word(0), -1);
        Check.due("product(0, 0)", y.product(0, 0), -1);
        for (int which = 0; which < 4; which++) {
            Check.due("related(" + which + ", 0, 0)", y.related(which, 0, 0), false);
            Check.due("classes(" + which + ")", y.classes(which), -1);
        }
        for (int which = 0; which < 6; which++) {
            Check.due("witness(" + which + ")", y.witness(which), -2);
        }
    }

    private static void basic() {
        Check.sentence("2: kind 0 just the word a, 1 just the word b");
        LetterAlgebra x = Made.of("a b empty none");
        hasJust(x, 0, "a");
        hasJust(x, 1, "b");

        Check.sentence("2: 2 just the empty word");
        hasJust(x, 2, "");
        Check.due("states(2)", x.states(2), 2);

        Check.sentence("2: 3 no word at all");
        hasJust(x, 3);
        Check.due("states(3)", x.states(3), 1);

        Check.sentence("2: BAD if kind is not 0 .. 3");
        for (int kind : new int[] {-1, 4, 5, LOW, HIGH}) {
            Check.due("basic(" + kind + ")", x.basic(kind), -1);
        }
        Check.due("count()", x.count(), 4);
    }

    private static void unite() {
        Check.sentence("3: the words that are in i or in j");
        LetterAlgebra x = Made.of("a b unite(0,1) none empty unite(0,3) unite(3,0) unite(4,0) unite(3,3) "
            + "invert(0) unite(9,0)");
        hasJust(x, 2, "a", "b");
        hasJust(x, 5, "a");
        hasJust(x, 6, "a");
        hasJust(x, 7, "", "a");
        hasJust(x, 8);
        Check.due("a and all others: states", x.states(10), 1);
        Check.due("a and all others: accepts", x.accepts(10, 0), true);
        LetterAlgebra v = Made.of("none invert(0) a unite(1,2) unite(2,1)");
        Check.due("unite(1, 2)", v.same(3, 1), true);
        Check.due("unite(2, 1)", v.same(4, 1), true);

        Check.sentence("3: (i may be j, here and below)");
        LetterAlgebra y = Made.of("a b unite(0,1) unite(2,2) meet(2,2) chain(2,2)");
        hasJust(y, 3, "a", "b");
        hasJust(y, 4, "a", "b");
        hasJust(y, 5, "aa", "ab", "ba", "bb");
        Check.due("same(2, 2)", y.same(2, 2), true);

        Check.sentence("3: BAD when a language that it names is not in the list");
        isBadForEach("unite");
    }

    private static void meet() {
        Check.sentence("4: the words that are in i and in j");
        LetterAlgebra x = Made.of("a b unite(0,1) meet(0,1) meet(2,1) meet(1,2) empty star(0) meet(6,7) "
            + "invert(0) meet(0,9)");
        hasJust(x, 3);
        hasJust(x, 4, "b");
        hasJust(x, 5, "b");
        hasJust(x, 8, "");
        hasJust(x, 10);
        Check.due("nothing in both: states", x.states(10), 1);
        LetterAlgebra y = Made.of("none invert(0) a meet(1,2) meet(2,1) meet(0,2) meet(2,0) meet(1,1)");
        hasJust(y, 3, "a");
        hasJust(y, 4, "a");
        hasJust(y, 5);
        hasJust(y, 6);
        Check.due("meet(1, 1)", y.same(7, 1), true);

        Check.sentence("4: BAD when a language that it names is not in the list");
        isBadForEach("meet");
    }

    private static void chain() {
        Check.sentence("5: the words u v with u in i and v in j");
        LetterAlgebra x = Made.of("a b chain(0,1) chain(1,0) chain(2,3) unite(0,2) unite(1,3) chain(5,6)");
        hasJust(x, 2, "ab");
        hasJust(x, 3, "ba");
        hasJust(x, 4, "abba");
        hasJust(x, 7, "ab", "aba", "abb", "abba");

        Check.sentence("5: u or v may be empty, or there may be none");
        LetterAlgebra y = Made.of("a empty none unite(0,1) chain(0,1) chain(1,0) chain(0,2) chain(2,0) "
            + "chain(3,3) chain(1,1) star(0) chain(10,3)");
        hasJust(y, 4, "a");
        hasJust(y, 5, "a");
        hasJust(y, 6);
        hasJust(y, 7);
        hasJust(y, 8, "", "a", "aa");
        hasJust(y, 9, "");
        hasJust(y, 11, "", "a", "aa", "aaa", "aaaa");

        Check.sentence("5: BAD when a language that it names is not in the list");
        isBadForEach("chain");
    }

    private static void star() {
        Check.sentence("6: of the empty word");
        LetterAlgebra x = Made.of("a none empty star(0) star(1) star(2) chain(0,0) star(6)");
        Check.due("a* has the empty word", Made.has(x, 3, ""), true);
        hasJust(x, 4, "");
        hasJust(x, 5, "");
        hasJust(x, 7, "", "aa", "aaaa");

        Check.sentence("6: of the empty word: state 0 may come back without it");
        // b*a leads by b from its start to its start, yet b cannot be parted.
        LetterAlgebra y = Made.of("a b star(1) chain(2,0) star(3)");
        hasJust(y, 4, "", "a", "aa", "ba", "aaa", "aba", "baa", "bba",
            "aaaa", "aaba", "abaa", "abba", "baaa", "baba", "bbaa", "bbba");
        Check.due("states", y.states(4), 2);

        Check.sentence("6: all words that can be parted into words that are in i");
        LetterAlgebra z = Made.of("a b chain(0,1) unite(0,2) star(3) chain(1,0) unite(2,5) star(6) star(7)");
        hasJust(z, 4, "", "a", "aa", "ab", "aaa", "aab", "aba", "aaaa", "aaab", "aaba", "abaa", "abab");
        hasJust(z, 7, "", "ab", "ba", "abab", "abba", "baab", "baba");
        Check.due("same(7, 8)", z.same(7, 8), true);

        Check.sentence("6: BAD when a language that it names is not in the list");
        isBadForEach("star");
    }

    private static void invert() {
        Check.sentence("7: the words that are not in i");
        LetterAlgebra x = Made.of("none invert(0) invert(1) a b unite(3,4) star(5) invert(6) empty "
            + "invert(8) chain(5,1)");
        Check.due("all words: states", x.states(1), 1);
        Check.due("all words: accepts", x.accepts(1, 0), true);
        hasJust(x, 2);
        hasJust(x, 7);
        Check.due("all but the empty word", x.same(9, 10), true);
        Check.due("it has not the empty word", Made.has(x, 9, ""), false);
        Check.due("it has b", Made.has(x, 9, "b"), true);

        Check.sentence("7: BAD when a language that it names is not in the list");
        isBadForEach("invert");
    }

    private static void forget() {
        Check.sentence("8: The latest language leaves the list");
        LetterAlgebra x = Made.of("a b");
        Check.due("forget()", x.forget(), true);
        Check.due("count()", x.count(), 1);
        Check.due("states(1)", x.states(1), -1);
        Check.due("contains(1, 1, 1)", x.contains(1, 1, 1), false);
        Check.due("accepts(1, 2)", x.accepts(1, 2), false);
        Check.due("next(1, 0, 0)", x.next(1, 0, 0), -1);
        Check.due("same(1, 1)", x.same(1, 1), false);
        Check.due("study(1)", x.study(1), -1);
        Check.due("star(1)", x.star(1), -1);
        hasJust(x, 0, "a");

        Check.sentence("8: (its number is the next one's)");
        Check.due("basic(2)", x.basic(2), 1);
        hasJust(x, 1, "");
        LetterAlgebra full = Made.of("a b a b a b a b a b a b");
        Check.due("forget() of twelve", full.forget(), true);
        Check.due("count()", full.count(), 11);
        Check.due("star(0)", full.star(0), 11);
        hasJust(full, 11, "", "a", "aa", "aaa", "aaaa");
        Check.due("star(0), full again", full.star(0), -2);

        Check.sentence("8: (its number is the next one's): nothing of it is left in the next one");
        LetterAlgebra six = Made.of("a b unite(0,1) chain(2,2) chain(3,3) invert(4)");
        six.forget();
        Check.due("meet(0, 1)", six.meet(0, 1), 5);
        Check.due("none", Seen.language(six, 5), " 0,0");
        Check.due("accepts(5, 5)", six.accepts(5, 5), false);
        Check.due("next(5, 1, 0)", six.next(5, 1, 0), -1);

        Check.sentence("8: True; false if there is none");
        LetterAlgebra y = Made.of("a b");
        Check.due("forget()", y.forget(), true);
        Check.due("forget()", y.forget(), true);
        Check.due("forget() of none", y.forget(), false);
        Check.due("forget() of none again", y.forget(), false);
        Check.due("count()", y.count(), 0);
        Check.due("basic(1)", y.basic(1), 0);
        Check.due("forget() in a new object", new LetterAlgebra().forget(), false);
    }

    private static void count() {
        Check.sentence("9: How many languages there are");
        LetterAlgebra x = new LetterAlgebra();
        for (int n = 0; n < 12; n++) {
            Check.due("count()", x.count(), n);
            x.basic(n % 4);
        }
        Check.due("count() of twelve", x.count(), 12);
        x.basic(0);
        Check.due("count() after FULL", x.count(), 12);
        for (int n = 11; n >= 0; n--) {
            x.forget();
            Check.due("count()", x.count(), n);
        }
        x.forget();
        Check.due("count() after forget() of none", x.count(), 0);
    }

    private static void states() {
        Check.sentence("10: The number of states: 1 at least, 6 at most");
        LetterAlgebra x = Made.of("none empty a chain(2,2) chain(3,2) chain(4,2)");
        for (int i = 0; i < 6; i++) {
            Check.due("states(" + i + ")", x.states(i), i + 1);
        }

        Check.sentence("10: BAD if it is not in the list");
        LetterAlgebra y = Made.of("a b a");
        y.forget();
        for (int i : NOT_OF_TWO) {
            Check.due("states(" + i + ")", y.states(i), -1);
        }
        LetterAlgebra full = Made.of("a b a b a b a b a b a b");
        Check.due("states(11)", full.states(11), 3);
        Check.due("states(12)", full.states(12), -1);
    }

    private static void next() {
        LetterAlgebra x = Made.of("a b chain(0,1) chain(2,2)");
        Check.sentence("11: BAD if there is no such language");
        for (int i : new int[] {-1, 4, 5, 11, 12, LOW, HIGH}) {
            Check.due("next(" + i + ", 0, 0)", x.next(i, 0, 0), -1);
            Check.due("next(" + i + ", 2, 1)", x.next(i, 2, 1), -1);
        }

        Check.sentence("11: BAD if there is no such state");
        for (int q : new int[] {-1, 3, 4, 5, 6, 7, LOW, HIGH}) {
            Check.due("next(0, " + q + ", 0)", x.next(0, q, 0), -1);
            Check.due("next(1, " + q + ", 1)", x.next(1, q, 1), -1);
        }
        Check.due("next(3, 5, 0) of six", x.next(3, 5, 0), 2);
        Check.due("next(3, 6, 0) of six", x.next(3, 6, 0), -1);

        Check.sentence("11: BAD if there is no such letter");
        for (int c : new int[] {-1, 2, 3, LOW, HIGH}) {
            Check.due("next(0, 0, " + c + ")", x.next(0, 0, c), -1);
            Check.due("next(0, 1, " + c + ")", x.next(0, 1, c), -1);
            Check.due("next(0, 2, " + c + ")", x.next(0, 2, c), -1);
        }
        Check.due("next(4, 3, 2): nothing is there", x.next(4, 3, 2), -1);
    }

    private static void accepts() {
        // 2 is all words, with one state; 5 is the word aaaa, with six, of which the last accepts.
        LetterAlgebra x = Made.of("none a invert(0) a chain(1,1) chain(4,4)");
        Check.sentence("12: Whether state q is accepting");
        Check.due("accepts(0, 0)", x.accepts(0, 0), false);
        Check.due("accepts(2, 0)", x.accepts(2, 0), true);
        for (int q = 0; q < 6; q++) {
            Check.due("accepts(5, " + q + ")", x.accepts(5, q), q == 5);
        }

        Check.sentence("12: false if there is no such language");
        for (int i : new int[] {-1, 6, 11, 12, LOW, HIGH}) {
            Check.due("accepts(" + i + ", 0)", x.accepts(i, 0), false);
        }
        LetterAlgebra y = Made.of("none invert(0)");
        Check.due("accepts(1, 0)", y.accepts(1, 0), true);
        y.forget();
        Check.due("accepts(1, 0) of a forgotten one", y.accepts(1, 0), false);

        Check.sentence("12: false if there is no such state");
        for (int q : new int[] {-1, 1, 2, 5, 6, 31, 32, 64, -32, -64, LOW, HIGH}) {
            Check.due("accepts(2, " + q + ")", x.accepts(2, q), false);
        }
        for (int q : new int[] {6, 37, 69, -27, -59}) {
            Check.due("accepts(5, " + q + ")", x.accepts(5, q), false);
        }
    }

    private static void containsEdges() {
        // 3 is a*b, 4 is ba*: the places of the last and of the first letter count.
        LetterAlgebra x = Made.of("a b star(0) chain(2,1) chain(1,2)");
        Check.sentence("13: its k-th letter (from 0) is the bit of letters that is worth 2^k");
        for (int k = 0; k < 64; k++) {
            Check.due("a*b: b at place " + k, x.contains(3, 1L << k, k + 1), true);
        }
        for (int k = 1; k < 64; k++) {
            Check.due("a*b: b before place " + k, x.contains(3, 1L << k - 1, k + 1), false);
        }
        Check.due("ba*: first letter b of 64", x.contains(4, 1, 64), true);
        Check.due("ba*: second letter b of 64", x.contains(4, 2, 64), false);
        Check.due("ba*: first letter b alone", x.contains(4, 1, 1), true);

        Check.sentence("13: (the least long's for k 63)");
        Check.due("a*b: the least long", x.contains(3, Long.MIN_VALUE, 64), true);
        Check.due("a*b: the greatest long", x.contains(3, Long.MAX_VALUE, 64), false);
        Check.due("a*: the least long", x.contains(2, Long.MIN_VALUE, 64), false);
        Check.due("a*: 0", x.contains(2, 0, 64), true);

        Check.sentence("13: (other bits are not looked at)");
        for (int n = 0; n < 64; n++) {
            Check.due("a*: n " + n + ", b behind it", x.contains(2, -1L << n, n), true);
        }
        Check.due("a*b: n 1", x.contains(3, -1L, 1), true);
        Check.due("a*b: n 33", x.contains(3, -1L << 32, 33), true);
        Check.due("a*b: n 63", x.contains(3, Long.MIN_VALUE, 63), false);
    }

    private static void containsRefusals() {
        LetterAlgebra x = Made.of("none invert(0) a star(2) invert(0)");
        x.forget();
        Check.sentence("13: False if there is no such language");
        for (int i : new int[] {-1, 4, 5, 11, 12, LOW, HIGH}) {
            Check.due("contains(" + i + ", 0, 0)", x.contains(i, 0, 0), false);
            Check.due("contains(" + i + ", 0, 64)", x.contains(i, 0, 64), false);
        }

        Check.sentence("13: False if n is not 0 .. 64");
        for (int n : new int[] {-1, -64, 65, 66, 128, 256, LOW, HIGH}) {
            Check.due("contains(1, 0, " + n + ")", x.contains(1, 0, n), false);
            Check.due("contains(3, 0, " + n + ")", x.contains(3, 0, n), false);
        }
        for (int n = 0; n <= 64; n++) {
            Check.due("contains(1, -1, " + n + ")", x.contains(1, -1, n), true);
            Check.due("contains(0, -1, " + n + ")", x.contains(0, -1, n), false);
        }
    }

    private static void same() {
        Check.sentence("14: Whether the languages i and j have the same words");
        LetterAlgebra x = Made.of("none invert(0) a b unite(2,3) star(4) empty star(0) chain(4,4) star(8)");
        Check.due("itself", x.same(2, 2), true);
        Check.due("all words, made twice", x.same(1, 5) && x.same(5, 1), true);
        Check.due("the empty word, made twice", x.same(6, 7) && x.same(7, 6), true);
        Check.due("acceptance alone differs", x.same(0, 1) || x.same(1, 0), false);
        Check.due("steps alone differ", x.same(6, 9) || x.same(9, 6), false);
        Check.due("a letter alone differs", x.same(2, 3) || x.same(3, 2), false);
        Check.due("the number of states differs", x.same(2, 6) || x.same(6, 2), false);
        Check.due("one is in the other", x.same(2, 4) || x.same(4, 2), false);
        LetterAlgebra v = Made.of("none none a b meet(2,3) empty unite(2,5)");
        Check.due("no word, made twice", v.same(0, 1) && v.same(0, 4), true);
        Check.due("one accepting state more", v.same(2, 6) || v.same(6, 2), false);
        Check.due("as many states", v.states(2) == v.states(6), true);

        Check.sentence("14: Whether the languages have the same words: the last of six states alone differs");
        // aaaa, aaaaa* and aaaab*: what comes behind aaaa is a matter of state 5.
        LetterAlgebra y = Made.of("a b chain(0,0) chain(2,2) star(0) star(1) chain(3,4) chain(3,5)");
        Check.due("states", y.states(3) * 100 + y.states(6) * 10 + y.states(7), 666);
        Check.due("for a alone", y.same(3, 6), false);
        Check.due("for b alone", y.same(3, 7), false);
        Check.due("for both", y.same(6, 7), false);

        Check.sentence("14: false if one of them is not in the list");
        LetterAlgebra z = Made.of("a b a a");
        z.forget();
        z.forget();
        for (int i : NOT_OF_TWO) {
            Check.due("same(0, " + i + ")", z.same(0, i), false);
            Check.due("same(" + i + ", 0)", z.same(i, 0), false);
            Check.due("same(" + i + ", " + i + ")", z.same(i, i), false);
        }
        Check.due("same(2, 3)", z.same(2, 3), false);
    }

    /** On each place a language that is none of the list, among them forgotten ones. */
    private static void isBadForEach(String name) {
        LetterAlgebra x = Made.of("a b a b");
        x.forget();
        x.forget();
        for (int i : NOT_OF_TWO) {
            String first = name + "(" + i + ",0)";
            String second = name + "(0," + i + ")";
            String both = name + "(" + i + "," + i + ")";
            Check.due(first, Made.make(x, first), -1);
            if (!name.equals("star") && !name.equals("invert")) {
                Check.due(second, Made.make(x, second), -1);
                Check.due(both, Made.make(x, both), -1);
            }
        }
        Check.due("count()", x.count(), 2);
    }

    /** Looks at all words of up to four letters. */
    private static void hasJust(LetterAlgebra x, int i, String... words) {
        StringBuilder got = new StringBuilder();
        for (String word : Model.shortWords(4)) {
            got.append(Made.has(x, i, word) ? " '" + word + "'" : "");
        }
        StringBuilder due = new StringBuilder();
        for (String word : words) {
            due.append(" '").append(word).append("'");
        }
        Check.due("the words of language " + i, got.toString(), due.toString());
    }
}
