/** What an object answers to all that can be asked of it without changing it, as a text. */
final class Seen {
    private Seen() {
    }

    /** At most 229 calls for the list, and 59 more for an algebra of three elements. */
    static String of(LetterAlgebra x) {
        return list(x) + algebra(x);
    }

    static String list(LetterAlgebra x) {
        StringBuilder text = new StringBuilder();
        int count = x.count();
        text.append(count).append(" languages");
        for (int i = 0; i < count; i++) {
            text.append("; ").append(i).append(':').append(language(x, i));
        }
        return text.toString();
    }

    /** For each state the next ones, with a star behind those of an accepting one. */
    static String language(LetterAlgebra x, int i) {
        StringBuilder text = new StringBuilder();
        int states = x.states(i);
        for (int q = 0; q < states; q++) {
            text.append(' ').append(x.next(i, q, 0)).append(',').append(x.next(i, q, 1));
            text.append(x.accepts(i, q) ? "*" : "");
        }
        return text.toString();
    }

    static String algebra(LetterAlgebra x) {
        StringBuilder text = new StringBuilder();
        int n = x.elements();
        text.append("; ").append(n).append(" elements");
        for (int j = 0; j < n; j++) {
            text.append(", ").append(x.word(j)).append(':');
            for (int k = 0; k < n; k++) {
                text.append(' ').append(x.product(j, k)).append(relations(x, j, k));
            }
        }
        for (int which = 0; which < 4; which++) {
            text.append(" classes ").append(x.classes(which));
        }
        for (int which = 0; which < 6; which++) {
            text.append(" witness ").append(x.witness(which));
        }
        return text.toString();
    }

    /** A letter for each relation that holds. */
    private static String relations(LetterAlgebra x, int j, int k) {
        StringBuilder text = new StringBuilder();
        for (int which = 0; which < 4; which++) {
            text.append(x.related(which, j, k) ? "rlbe".substring(which, which + 1) : "");
        }
        return text.toString();
    }
}
