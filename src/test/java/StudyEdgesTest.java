/** The boundary cases of promises 15 to 21, and of the terms that they use: a test for each
    sentence that names one. */
public final class StudyEdgesTest {
    private static final int LOW = Integer.MIN_VALUE;
    private static final int HIGH = Integer.MAX_VALUE;
    /** Language 3 is (ab)*, with the elements "", a, b, aa, ab, ba. */
    private static final String AB_STAR = "a b chain(0,1) star(2)";
    private static final int[] NOT_OF_SIX = {-1, 6, 7, 12, 59, 60, 61, 63, 64, 70, -6, -64, LOW, HIGH};
    private static final int[] NO_RELATION = {-1, 4, 5, 6, LOW, HIGH};
    /** Language 7 has 60 elements. */
    private static final String SIXTY = "a b unite(1,0) chain(2,0) unite(3,2) chain(4,1) star(5) chain(3,6)";
    /** Language 6 has 61, language 5 fewer. */
    private static final String SIXTY_ONE = "a b unite(1,0) chain(2,1) chain(3,2) chain(4,2) star(5)";
    /** Languages 3 and 4 are the words that begin with a and those that end in it. */
    private static final String SIDES = "none invert(0) a chain(2,1) chain(1,2)";
    /** Language 8 has the elements of the group of the orders of three things. */
    private static final String ORDERS = "a b star(0) chain(1,2) chain(3,1) unite(0,4) unite(0,1) chain(6,5) star(7)";

    public static void main(String[] args) {
        studied();
        study();
        studyOfSixty();
        elements();
        word();
        product();
        related();
        relations();
        classes();
        witnessRefusals();
        witnessOrder();
        properties();
        Check.end();
    }

    private static LetterAlgebra studying(String calls, int i, int elements) {
        LetterAlgebra x = Made.of(calls);
        Check.due(calls + " study(" + i + ")", x.study(i), elements);
        return x;
    }

    private static void studied() {
        Check.sentence("The STUDIED algebra is that of study() called last");
        LetterAlgebra x = studying(AB_STAR, 3, 6);
        Check.due("study(0)", x.study(0), 3);
        Check.due("a", Seen.algebra(x), Seen.algebra(studying("a", 0, 3)));
        Check.due("study(2)", x.study(2), 5);
        Check.due("ab", Seen.algebra(x), Seen.algebra(studying("a b chain(0,1)", 2, 5)));

        Check.sentence("(with an answer that was no refusal): BAD");
        LetterAlgebra y = studying(SIXTY_ONE, 0, 3);
        for (int i : new int[] {-1, 7, 12, LOW, HIGH}) {
            Check.due("study(" + i + ")", y.study(i), -1);
        }
        Check.due("what was studied", Seen.algebra(y), Seen.algebra(studying("a", 0, 3)));

        Check.sentence("(with an answer that was no refusal): LARGE");
        Check.due("study(6)", y.study(6), -3);
        Check.due("study(6)", y.study(6), -3);
        Check.due("what was studied", Seen.algebra(y), Seen.algebra(studying("a", 0, 3)));

        Check.sentence("before that there is none");
        LetterAlgebra z = Made.of(SIXTY_ONE);
        Check.due("elements()", z.elements(), -1);
        Check.due("study(7)", z.study(7), -1);
        Check.due("elements() after BAD", z.elements(), -1);
        Check.due("study(6)", z.study(6), -3);
        Check.due("elements() after LARGE", z.elements(), -1);
        Check.due("word(0) after LARGE", z.word(0), -1);
        Check.due("product(0, 0) after LARGE", z.product(0, 0), -1);
        Check.due("related(0, 0, 0) after LARGE", z.related(0, 0, 0), false);
        Check.due("classes(0) after LARGE", z.classes(0), -1);
        Check.due("witness(0) after LARGE", z.witness(0), -2);

        Check.sentence("(whether its language is in the list still does not matter)");
        LetterAlgebra w = studying("a", 0, 3);
        String before = Seen.algebra(w);
        Check.due("forget()", w.forget(), true);
        Check.due("after forget()", Seen.algebra(w), before);
        Made.then(w, "none invert(0)");
        Check.due("with another one in its place", Seen.algebra(w), before);
        Check.due("study(0)", w.study(0), 1);
        Check.due("elements()", w.elements(), 1);
    }

    private static void study() {
        Check.sentence("15: (in place of what was studied)");
        LetterAlgebra x = studying(SIXTY, 7, 60);
        Check.due("study(0)", x.study(0), 3);
        Check.due("a", Seen.algebra(x), Seen.algebra(studying("a", 0, 3)));
        Check.due("word(3)", x.word(3), -1);
        Check.due("product(3, 0)", x.product(3, 0), -1);
        Check.due("related(0, 3, 3)", x.related(0, 3, 3), false);
        // In a group all sets of products are all elements: none of that may be left.
        LetterAlgebra group = studying(ORDERS, 8, 6);
        Check.due("study(0) after a group", group.study(0), 3);
        Check.due("a after a group", Seen.algebra(group), Seen.algebra(studying("a", 0, 3)));
        LetterAlgebra y = studying("none a", 0, 1);
        Check.due("study(1)", y.study(1), 3);
        Check.due("a after none", Seen.algebra(y), Seen.algebra(studying("a", 0, 3)));

        Check.sentence("15: Answers the number of its elements, 1 or more");
        LetterAlgebra z = Made.of("none invert(0) empty");
        Check.due("no word: study(0)", z.study(0), 1);
        Check.due("all words: study(1)", z.study(1), 1);
        Check.due("the empty word: study(2)", z.study(2), 2);

        Check.sentence("15: changing nothing: BAD if i is not in the list");
        LetterAlgebra w = Made.of("a b a");
        w.forget();
        w.study(0);
        String before = Seen.of(w);
        for (int i : new int[] {-1, 2, 3, 11, 12, LOW, HIGH}) {
            Check.due("study(" + i + ")", w.study(i), -1);
        }
        Check.due("all that can be asked", Seen.of(w), before);
        Check.due("study(0) of an empty list", new LetterAlgebra().study(0), -1);

        Check.sentence("15: changing nothing: LARGE if there are more than 60");
        LetterAlgebra v = studying(SIXTY_ONE, 0, 3);
        String old = Seen.of(v);
        Check.due("study of 61", v.study(6), -3);
        Check.due("all that can be asked", Seen.of(v), old);

        Check.sentence("15: changing nothing, the list neither");
        LetterAlgebra u = Made.of(AB_STAR);
        String list = Seen.list(u);
        Check.due("study(3)", u.study(3), 6);
        Check.due("the list", Seen.list(u), list);
    }

    /** All answers about the greatest algebra that there may be, against those of the model. */
    private static void studyOfSixty() {
        Check.sentence("15: LARGE if there are more than 60: sixty are not too many");
        Renewed x = new Renewed();
        Model model = new Model();
        for (String call : SIXTY.split(" ")) {
            Check.due(call, x.change(y -> Made.make(y, call)), Made.make(model, call));
        }
        Check.due("study(7)", x.change(y -> y.study(7)), 60);
        Check.due("study(7) of the model", model.study(7), 60);
        ModelTest.algebra(x, model, "60: ");
    }

    private static void elements() {
        Check.sentence("16: The number of elements of the studied algebra");
        Check.due("1", studying("none", 0, 1).elements(), 1);
        Check.due("6", studying(AB_STAR, 3, 6).elements(), 6);
        Check.due("60", studying(SIXTY, 7, 60).elements(), 60);

        Check.sentence("16: BAD if there is none");
        Check.due("elements() of a new object", new LetterAlgebra().elements(), -1);
        Check.due("elements() with languages", Made.of(AB_STAR).elements(), -1);
    }

    private static void word() {
        Check.sentence("17: (of element 0 it is 1)");
        Check.due("no word", studying("none", 0, 1).word(0), 1);
        Check.due("(ab)*", studying(AB_STAR, 3, 6).word(0), 1);
        Check.due("60 elements", studying(SIXTY, 7, 60).word(0), 1);

        Check.sentence("17: the number 1, then for each letter in order twice the number, and 1 more for b");
        LetterAlgebra x = studying(AB_STAR, 3, 6);
        long[] numbers = {1, 2, 3, 4, 5, 6};
        for (int k = 0; k < 6; k++) {
            Check.due("word(" + k + ")", x.word(k), numbers[k]);
        }
        LetterAlgebra y = studying("a b chain(0,1) chain(2,1)", 3, 7);
        long[] ofAbb = {1, 2, 3, 4, 5, 7, 11};
        for (int k = 0; k < 7; k++) {
            Check.due("abb: word(" + k + ")", y.word(k), ofAbb[k]);
        }

        Check.sentence("17: BAD if there is no such element");
        for (int k : NOT_OF_SIX) {
            Check.due("word(" + k + ")", x.word(k), -1L);
        }
        Check.due("word(60) of 60", studying(SIXTY, 7, 60).word(60), -1L);
        Check.due("word(0), nothing studied", Made.of("a").word(0), -1L);
    }

    private static void product() {
        Check.sentence("18: BAD if one of them is none");
        LetterAlgebra x = studying(AB_STAR, 3, 6);
        for (int k : NOT_OF_SIX) {
            Check.due("product(0, " + k + ")", x.product(0, k), -1);
            Check.due("product(5, " + k + ")", x.product(5, k), -1);
            Check.due("product(" + k + ", 0)", x.product(k, 0), -1);
            Check.due("product(" + k + ", 5)", x.product(k, 5), -1);
            Check.due("product(" + k + ", " + k + ")", x.product(k, k), -1);
        }
        LetterAlgebra y = studying(SIXTY, 7, 60);
        Check.due("product(0, 60) of 60", y.product(0, 60), -1);
        Check.due("product(60, 0) of 60", y.product(60, 0), -1);
        Check.due("product(0, 59) of 60", y.product(0, 59), 59);
        Check.due("product(59, 0) of 60", y.product(59, 0), 59);
        Check.due("product(1, -1) of 60", y.product(1, -1), -1);
        Check.due("product(0, 0), nothing studied", Made.of("a").product(0, 0), -1);

        Check.sentence("18: The product of elements j and k: element 0 changes nothing");
        for (int k = 0; k < 6; k++) {
            Check.due("product(0, " + k + ")", x.product(0, k), k);
            Check.due("product(" + k + ", 0)", x.product(k, 0), k);
        }
    }

    private static void related() {
        Check.sentence("19: (each with itself, too)");
        LetterAlgebra x = studying(AB_STAR, 3, 6);
        LetterAlgebra y = studying(SIXTY, 7, 60);
        for (int which = 0; which < 4; which++) {
            for (int k = 0; k < 6; k++) {
                Check.due("related(" + which + ", " + k + ", itself)", x.related(which, k, k), true);
            }
            for (int k = 0; k < 60; k++) {
                Check.due("related(" + which + ", " + k + ", itself) of 60", y.related(which, k, k), true);
            }
        }

        Check.sentence("19: false if there is no such relation");
        for (int which : NO_RELATION) {
            Check.due("related(" + which + ", 0, 0)", x.related(which, 0, 0), false);
            Check.due("related(" + which + ", 1, 1)", x.related(which, 1, 1), false);
        }

        Check.sentence("19: false if there is no such element");
        for (int k : NOT_OF_SIX) {
            for (int which = 0; which < 4; which++) {
                Check.due("related(" + which + ", 0, " + k + ")", x.related(which, 0, k), false);
                Check.due("related(" + which + ", " + k + ", 0)", x.related(which, k, 0), false);
                Check.due("related(" + which + ", " + k + ", itself)", x.related(which, k, k), false);
            }
        }
        LetterAlgebra z = studying("none", 0, 1);
        Check.due("related(0, 1, 1) of one element", z.related(0, 1, 1), false);
        Check.due("related(0, 60, 60) of 60", y.related(0, 60, 60), false);
        Check.due("related(0, 0, 0), nothing studied", Made.of("a").related(0, 0, 0), false);
    }

    private static void relations() {
        Check.sentence("RELATED by 0: when the products j x are the same elements as the products k x");
        LetterAlgebra x = studying(SIDES, 3, 3);
        Check.due("a..: related(0, 1, 2)", x.related(0, 1, 2), false);
        LetterAlgebra y = studying(SIDES, 4, 3);
        Check.due("..a: related(0, 1, 2)", y.related(0, 1, 2), true);
        Check.due("..a: related(0, 0, 1), of which one holds more", y.related(0, 0, 1), false);
        Check.due("..a: related(0, 1, 0)", y.related(0, 1, 0), false);

        Check.sentence("RELATED by 1: when the products x j are the same as the products x k");
        Check.due("a..: related(1, 1, 2)", x.related(1, 1, 2), true);
        Check.due("..a: related(1, 1, 2)", y.related(1, 1, 2), false);
        Check.due("a..: related(1, 0, 1)", x.related(1, 0, 1), false);

        Check.sentence("RELATED by 2: when the products x j y are the same as the products x k y");
        LetterAlgebra z = studying(AB_STAR, 3, 6);
        Check.due("(ab)*: related(0, 1, 2)", z.related(0, 1, 2), false);
        Check.due("(ab)*: related(1, 1, 2)", z.related(1, 1, 2), false);
        Check.due("(ab)*: related(2, 1, 2)", z.related(2, 1, 2), true);
        Check.due("(ab)*: related(2, 1, 3)", z.related(2, 1, 3), false);
        Check.due("(ab)*: related(2, 0, 1)", z.related(2, 0, 1), false);

        Check.sentence("RELATED by 3: when they are related by 0 and by 1");
        Check.due("a..: related(3, 1, 2)", x.related(3, 1, 2), false);
        Check.due("..a: related(3, 1, 2)", y.related(3, 1, 2), false);
        Check.due("(ab)*: related(3, 1, 2)", z.related(3, 1, 2), false);
        LetterAlgebra w = studying("a chain(0,0) star(1)", 2, 3);
        Check.due("(aa)*: related(3, 0, 1)", w.related(3, 0, 1), true);
        Check.due("(aa)*: related(3, 0, 2)", w.related(3, 0, 2), false);
    }

    private static void classes() {
        Check.sentence("20: Into how many classes the elements fall by relation which");
        classes("none", 0, 1, 1, 1, 1, 1);
        classes(AB_STAR, 3, 6, 4, 4, 3, 6);
        classes(SIDES, 3, 3, 3, 2, 2, 3);
        classes(SIDES, 4, 3, 2, 3, 2, 3);
        classes(ORDERS, 8, 6, 1, 1, 1, 1);
        classes("a b chain(0,0) star(1) chain(3,2) star(4)", 5, 10, 5, 6, 4, 9);

        Check.sentence("20: BAD if there is no such relation");
        LetterAlgebra x = studying(AB_STAR, 3, 6);
        for (int which : NO_RELATION) {
            Check.due("classes(" + which + ")", x.classes(which), -1);
        }

        Check.sentence("20: BAD if nothing studied");
        LetterAlgebra y = Made.of("a b");
        for (int which = -1; which <= 4; which++) {
            Check.due("classes(" + which + ")", y.classes(which), -1);
        }
    }

    private static void classes(String calls, int i, int elements, int... due) {
        LetterAlgebra x = studying(calls, i, elements);
        for (int which = 0; which < 4; which++) {
            Check.due(calls + " classes(" + which + ")", x.classes(which), due[which]);
        }
    }

    private static void witnessRefusals() {
        Check.sentence("21: -2 if there is no such property");
        LetterAlgebra x = studying(AB_STAR, 3, 6);
        for (int which : new int[] {-1, -2, 6, 7, LOW, HIGH}) {
            Check.due("witness(" + which + ")", x.witness(which), -2);
        }

        Check.sentence("21: -2 if nothing studied");
        LetterAlgebra y = Made.of("a b");
        for (int which = -1; which <= 6; which++) {
            Check.due("witness(" + which + ")", y.witness(which), -2);
        }
        y.study(2);
        Check.due("witness(0) after a refused study()", y.witness(0), -2);

        Check.sentence("21: -1 if nothing is against it");
        LetterAlgebra z = studying("none", 0, 1);
        for (int which = 0; which < 6; which++) {
            Check.due("no word: witness(" + which + ")", z.witness(which), -1);
        }
    }

    private static void witnessOrder() {
        Check.sentence("21: 64 j + k for the pair (j, k) that is against it with the least j");
        // In each of these another pair has a lesser k.
        witness("a b chain(1,0) unite(2,1) chain(3,3) star(4)", 5, 10, 1, 1, 7);
        witness("a b chain(1,0) star(2) chain(3,0) star(4)", 5, 9, 2, 2, 5);
        witness("a b chain(0,1) star(2)", 3, 6, 3, 1, 5);
        witness("a b chain(1,1) star(2) invert(3) chain(4,0)", 5, 7, 4, 1, 5);

        Check.sentence("21: and of those the least k");
        // In each of these the least j has several.
        witness("a b chain(1,1) chain(2,1) star(3) chain(4,0)", 5, 8, 1, 2, 5);
        witness("a b chain(0,0) chain(2,1) star(3)", 4, 12, 2, 2, 5);
        witness("a b chain(0,0) chain(2,1) star(3)", 4, 12, 3, 2, 4);
        witness("a b chain(1,0) star(2) chain(3,0)", 4, 9, 4, 2, 4);

        Check.sentence("21: (for property 5: 64 j + j)");
        witness(AB_STAR, 3, 6, 5, 1, 1);
        witness("a chain(0,0) star(1)", 2, 3, 5, 2, 2);
        witness("a b star(1) chain(2,0)", 3, 4, 5, 1, 1);
    }

    private static void witness(String calls, int i, int elements, int which, int j, int k) {
        LetterAlgebra x = studying(calls, i, elements);
        Check.due(calls + " witness(" + which + ")", x.witness(which), 64 * j + k);
    }

    private static void properties() {
        Check.sentence("0 COMMUTATIVE: .. when the products of j and k and of k and j are different");
        Check.due("(ab)*", studying(AB_STAR, 3, 6).witness(0), 66);
        Check.due("the orders of three things", studying(ORDERS, 8, 6).witness(0), 66);
        Check.due("(aa)*", studying("a chain(0,0) star(1)", 2, 3).witness(0), -1);

        Check.sentence("1 TRIVIAL by the relation 3: .. when they are different and related by it");
        Check.due("(aa)*", studying("a chain(0,0) star(1)", 2, 3).witness(1), 1);
        Check.due("aaa(aa)*", studying("a chain(0,0) star(1) chain(0,1) chain(3,2)", 4, 5).witness(1), 3 * 64 + 4);
        Check.due("(ab)*", studying(AB_STAR, 3, 6).witness(1), -1);
        Check.due("a..", studying(SIDES, 3, 3).witness(1), -1);

        Check.sentence("2 TRIVIAL by 0: .. when they are different and related by it");
        Check.due("a..", studying(SIDES, 3, 3).witness(2), -1);
        Check.due("..a", studying(SIDES, 4, 3).witness(2), 66);

        Check.sentence("3 TRIVIAL by 1: .. when they are different and related by it");
        Check.due("a..", studying(SIDES, 3, 3).witness(3), 66);
        Check.due("..a", studying(SIDES, 4, 3).witness(3), -1);

        Check.sentence("4 TRIVIAL by 2: .. when they are different and related by it");
        Check.due("a..", studying(SIDES, 3, 3).witness(4), 66);
        Check.due("..a", studying(SIDES, 4, 3).witness(4), 66);
        Check.due("a alone", studying("a", 0, 3).witness(4), -1);

        Check.sentence("5 GROUP: .. when there is no k so that the product of j and k is 0");
        Check.due("the orders of three things", studying(ORDERS, 8, 6).witness(5), -1);
        Check.due("even length", studying("a b unite(0,1) chain(2,2) star(3)", 4, 2).witness(5), -1);
        Check.due("the empty word", studying("empty", 0, 2).witness(5), 65);
    }
}
