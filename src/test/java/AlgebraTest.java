/** Promises 15 to 21: the algebra of a language. */
public final class AlgebraTest {
    /** Language 7 has 60 elements. */
    private static final String SIXTY = "a b unite(1,0) chain(2,0) unite(3,2) chain(4,1) star(5) chain(3,6)";
    /** Language 6 has 61. */
    private static final String SIXTY_ONE = "a b unite(1,0) chain(2,1) chain(3,2) chain(4,2) star(5)";
    private static final int[] FAR = {-1, 64, Integer.MIN_VALUE, Integer.MAX_VALUE};

    public static void main(String[] args) {
        study();
        studyLimits();
        words();
        products();
        related();
        classes();
        trivialAlgebra();
        witnessOfOrder();
        witnessOfSides();
        witnessOfGroups();
        Check.end();
    }

    /** The language (ab)*, of which the elements are those of "", a, b, aa, ab, ba. */
    private static LetterAlgebra abStar() {
        LetterAlgebra x = Made.of("a b chain(0,1) star(2)");
        Check.due("study((ab)*)", x.study(3), 6);
        return x;
    }

    private static void study() {
        LetterAlgebra x = abStar();
        Check.due("elements()", x.elements(), 6);
        Check.due("study() of no language", x.study(4), -1);
        Check.due("study(-1)", x.study(-1), -1);
        Check.due("elements() after BAD", x.elements(), 6);
        Check.due("product after BAD", x.product(1, 2), 4);
        while (x.forget()) {
            Check.due("elements() after forget()", x.elements(), 6);
        }
        Check.due("word(5) after forget()", x.word(5), Made.number("ba"));
        Check.due("witness(0) after forget()", x.witness(0), 66);
        Made.then(x, "none");
        Check.due("elements() with another language there", x.elements(), 6);
        Check.due("study of it", x.study(0), 1);
        Check.due("elements() in its place", x.elements(), 1);
        Check.due("word(1) is no more", x.word(1), -1);
        Check.due("classes(2) in its place", x.classes(2), 1);
    }

    private static void studyLimits() {
        LetterAlgebra x = Made.of(SIXTY);
        Check.due("study of 60", x.study(7), 60);
        Check.due("elements()", x.elements(), 60);
        Check.due("word(59)", x.word(59) > x.word(58), true);
        Check.due("word(60)", x.word(60), -1);
        Check.due("product(59, 59)", x.product(59, 59) >= 0, true);
        Check.due("product(60, 0)", x.product(60, 0), -1);
        Check.due("related(0, 59, 59)", x.related(0, 59, 59), true);
        LetterAlgebra y = Made.of(SIXTY_ONE);
        Check.due("study of 61", y.study(6), -3);
        Check.due("elements() of nothing", y.elements(), -1);
        Check.due("witness(0) of nothing", y.witness(0), -2);
        Check.due("study(0)", y.study(0), 3);
        long[] before = answers(y);
        Check.due("study of 61 again", y.study(6), -3);
        long[] after = answers(y);
        for (int k = 0; k < before.length; k++) {
            Check.due("answer " + k + " after LARGE", after[k], before[k]);
        }
    }

    private static long[] answers(LetterAlgebra x) {
        long[] answers = new long[40];
        int n = 0;
        answers[n++] = x.elements();
        for (int j = 0; j < 4; j++) {
            answers[n++] = x.word(j);
            answers[n++] = x.classes(j);
            for (int k = 0; k < 4; k++) {
                answers[n++] = x.product(j, k);
            }
        }
        for (int which = 0; which < 6; which++) {
            answers[n++] = x.witness(which);
        }
        return answers;
    }

    private static void words() {
        LetterAlgebra x = abStar();
        String[] least = {"", "a", "b", "aa", "ab", "ba"};
        for (int k = 0; k < 6; k++) {
            Check.due("word(" + k + ")", x.word(k), Made.number(least[k]));
        }
        Check.due("word(6)", x.word(6), -1);
        for (int k : FAR) {
            Check.due("word(" + k + ")", x.word(k), -1);
        }
        // The words of even length: b is like a, so that no least word has it.
        LetterAlgebra y = Made.of("a b unite(0,1) chain(2,2) star(3)");
        Check.due("study(even)", y.study(4), 2);
        Check.due("word(0)", y.word(0), 1);
        Check.due("word(1)", y.word(1), 2);
        Check.due("word(2)", y.word(2), -1);
        // The language (aaaa)*: the letter b alone spoils a word.
        LetterAlgebra z = Made.of("a chain(0,0) chain(1,1) star(2)");
        Check.due("study((aaaa)*)", z.study(3), 5);
        Check.due("word(2)", z.word(2), Made.number("b"));
        Check.due("word(4)", z.word(4), Made.number("aaa"));
    }

    private static void products() {
        LetterAlgebra x = abStar();
        int[][] due = {
            {0, 1, 2, 3, 4, 5}, {1, 3, 4, 3, 3, 1}, {2, 5, 3, 3, 2, 3},
            {3, 3, 3, 3, 3, 3}, {4, 1, 3, 3, 4, 3}, {5, 3, 2, 3, 3, 5},
        };
        for (int j = 0; j < 6; j++) {
            for (int k = 0; k < 6; k++) {
                Check.due("product(" + j + ", " + k + ")", x.product(j, k), due[j][k]);
            }
            Check.due("product(" + j + ", 6)", x.product(j, 6), -1);
            Check.due("product(6, " + j + ")", x.product(6, j), -1);
        }
        for (int k : FAR) {
            Check.due("product(0, " + k + ")", x.product(0, k), -1);
            Check.due("product(" + k + ", 0)", x.product(k, 0), -1);
        }
    }

    private static void related() {
        LetterAlgebra x = abStar();
        int[][] classOf = {{0, 1, 2, 3, 1, 2}, {0, 1, 2, 3, 2, 1}, {0, 1, 1, 3, 1, 1}, {0, 1, 2, 3, 4, 5}};
        for (int which = 0; which < 4; which++) {
            for (int j = 0; j < 6; j++) {
                for (int k = 0; k < 6; k++) {
                    boolean due = classOf[which][j] == classOf[which][k];
                    Check.due("related(" + which + ", " + j + ", " + k + ")", x.related(which, j, k), due);
                }
            }
            Check.due("related(" + which + ", 6, 6)", x.related(which, 6, 6), false);
            Check.due("related(" + which + ", 0, 6)", x.related(which, 0, 6), false);
            for (int k : FAR) {
                Check.due("related(" + which + ", " + k + ", 0)", x.related(which, k, 0), false);
                Check.due("related(" + which + ", 0, " + k + ")", x.related(which, 0, k), false);
            }
        }
        for (int which : new int[] {-1, 4, Integer.MIN_VALUE, Integer.MAX_VALUE}) {
            Check.due("related(" + which + ", 0, 0)", x.related(which, 0, 0), false);
        }
    }

    private static void classes() {
        LetterAlgebra x = abStar();
        int[] due = {4, 4, 3, 6};
        for (int which = 0; which < 4; which++) {
            Check.due("classes(" + which + ")", x.classes(which), due[which]);
        }
        for (int which : new int[] {-1, 4, Integer.MIN_VALUE, Integer.MAX_VALUE}) {
            Check.due("classes(" + which + ")", x.classes(which), -1);
        }
        // Words that begin with a: a and b are related by 1 alone and by 2.
        LetterAlgebra y = Made.of("none invert(0) a chain(2,1)");
        Check.due("study(a..)", y.study(3), 3);
        Check.due("classes(0)", y.classes(0), 3);
        Check.due("classes(1)", y.classes(1), 2);
        Check.due("classes(2)", y.classes(2), 2);
        Check.due("classes(3)", y.classes(3), 3);
    }

    private static void trivialAlgebra() {
        LetterAlgebra x = Made.of("none invert(0)");
        for (int i = 0; i < 2; i++) {
            Check.due("study(" + i + ")", x.study(i), 1);
            Check.due("word(0)", x.word(0), 1);
            Check.due("product(0, 0)", x.product(0, 0), 0);
            for (int which = 0; which < 4; which++) {
                Check.due("classes(" + which + ")", x.classes(which), 1);
                Check.due("related(" + which + ", 0, 0)", x.related(which, 0, 0), true);
            }
            for (int which = 0; which < 6; which++) {
                Check.due("witness(" + which + ")", x.witness(which), -1);
            }
        }
    }

    private static void witnessOfOrder() {
        LetterAlgebra x = abStar();
        Check.due("(ab)*: witness(0)", x.witness(0), 64 + 2);
        Check.due("(ab)*: witness(1)", x.witness(1), -1);
        Check.due("(ab)*: witness(2)", x.witness(2), 64 + 4);
        Check.due("(ab)*: witness(3)", x.witness(3), 64 + 5);
        Check.due("(ab)*: witness(4)", x.witness(4), 64 + 2);
        Check.due("(ab)*: witness(5)", x.witness(5), 64 + 1);
        for (int which : new int[] {-1, 6, Integer.MIN_VALUE, Integer.MAX_VALUE}) {
            Check.due("witness(" + which + ")", x.witness(which), -2);
        }
    }

    /** Where the first letter counts, and where the last one does. */
    private static void witnessOfSides() {
        LetterAlgebra x = Made.of("none invert(0) a chain(2,1) chain(1,2)");
        int[] begins = {66, -1, -1, 66, 66, 65};
        int[] ends = {66, -1, 66, -1, 66, 65};
        Check.due("study(a..)", x.study(3), 3);
        for (int which = 0; which < 6; which++) {
            Check.due("a..: witness(" + which + ")", x.witness(which), begins[which]);
        }
        Check.due("study(..a)", x.study(4), 3);
        for (int which = 0; which < 6; which++) {
            Check.due("..a: witness(" + which + ")", x.witness(which), ends[which]);
        }
    }

    private static void witnessOfGroups() {
        // The words of a length that three divides: a group, so all elements are related.
        LetterAlgebra x = Made.of("a b unite(0,1) chain(2,2) chain(3,2) star(4)");
        Check.due("study(threes)", x.study(5), 3);
        int[] due = {-1, 1, 1, 1, 1, -1};
        for (int which = 0; which < 6; which++) {
            Check.due("threes: witness(" + which + ")", x.witness(which), due[which]);
        }
        // (aa)*: the word b spoils all, so the first that is against a group is element 2.
        LetterAlgebra y = Made.of("a chain(0,0) star(1)");
        Check.due("study((aa)*)", y.study(2), 3);
        Check.due("(aa)*: witness(0)", y.witness(0), -1);
        Check.due("(aa)*: witness(1)", y.witness(1), 1);
        Check.due("(aa)*: witness(5)", y.witness(5), 2 * 64 + 2);
    }
}
