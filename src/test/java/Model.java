import java.util.ArrayList;
import java.util.HashMap;
import java.util.List;
import java.util.Map;
import java.util.TreeSet;

/** The document's face once more, worked out by other ways and with no care for the cost: least
    automata by turning round twice, algebras by trying words in all surroundings. */
final class Model {
    private final List<Dfa> list = new ArrayList<>();
    private Studied studied = null;

    int basic(int kind) {
        if (kind < 0 || kind > 3) {
            return -1;
        }
        Nfa nfa = new Nfa(2);
        nfa.starts.add(0);
        if (kind < 2) {
            nfa.steps.get(0).get(kind).add(1);
            nfa.accepting.add(1);
        } else if (kind == 2) {
            nfa.accepting.add(0);
        }
        return add(nfa);
    }

    int unite(int i, int j) {
        return isOut(i) || isOut(j) ? -1 : add(united(nfa(i), nfa(j)));
    }

    int meet(int i, int j) {
        if (isOut(i) || isOut(j)) {
            return -1;
        }
        Dfa neither = united(list.get(i).inverse().nfa(), list.get(j).inverse().nfa()).least();
        return add(neither.inverse().nfa());
    }

    int chain(int i, int j) {
        if (isOut(i) || isOut(j)) {
            return -1;
        }
        int shift = list.get(i).size();
        Nfa both = nfa(i).with(nfa(j));
        for (int end : nfa(i).accepting) {
            for (int start : nfa(j).starts) {
                both.silent.get(end).add(start + shift);
            }
        }
        both.starts = new TreeSet<>(nfa(i).starts);
        both.accepting.removeIf(q -> q < shift);
        return add(both);
    }

    int star(int i) {
        if (isOut(i)) {
            return -1;
        }
        int shift = list.get(i).size();
        Nfa result = nfa(i).with(new Nfa(1));
        for (int end : nfa(i).accepting) {
            result.silent.get(end).add(shift);
        }
        for (int start : nfa(i).starts) {
            result.silent.get(shift).add(start);
        }
        result.starts = new TreeSet<>(List.of(shift));
        result.accepting = new TreeSet<>(List.of(shift));
        return add(result);
    }

    int invert(int i) {
        return isOut(i) ? -1 : add(list.get(i).inverse().nfa());
    }

    boolean forget() {
        if (list.isEmpty()) {
            return false;
        }
        list.remove(list.size() - 1);
        return true;
    }

    int count() {
        return list.size();
    }

    int states(int i) {
        return isOut(i) ? -1 : list.get(i).size();
    }

    int next(int i, int q, int c) {
        return isOut(i) || q < 0 || q >= states(i) || c < 0 || c > 1 ? -1 : list.get(i).steps.get(q)[c];
    }

    boolean accepts(int i, int q) {
        return !isOut(i) && q >= 0 && q < states(i) && list.get(i).accepting.get(q);
    }

    boolean contains(int i, long letters, int n) {
        if (isOut(i) || n < 0 || n > 64) {
            return false;
        }
        StringBuilder word = new StringBuilder();
        long rest = letters;
        for (int k = 0; k < n; k++) {
            word.append((rest & 1) == 0 ? 'a' : 'b');
            rest >>= 1;
        }
        return list.get(i).accepting.get(list.get(i).after(0, word.toString()));
    }

    boolean same(int i, int j) {
        if (isOut(i) || isOut(j)) {
            return false;
        }
        for (String word : shortWords(6)) {
            Dfa first = list.get(i);
            Dfa second = list.get(j);
            // Both in step through all pairs of states that short words lead to.
            int p = first.after(0, word);
            int q = second.after(0, word);
            for (String more : shortWords(6)) {
                if (!first.accepting.get(first.after(p, more)).equals(second.accepting.get(second.after(q, more)))) {
                    return false;
                }
            }
        }
        return true;
    }

    int study(int i) {
        if (isOut(i)) {
            return -1;
        }
        Studied found = new Studied(list.get(i));
        if (found.words.size() > 60) {
            return -3;
        }
        studied = found;
        return found.words.size();
    }

    int elements() {
        return studied == null ? -1 : studied.words.size();
    }

    long word(int k) {
        return isNone(k) ? -1 : Made.number(studied.words.get(k));
    }

    int product(int j, int k) {
        return isNone(j) || isNone(k) ? -1 : studied.product(j, k);
    }

    boolean related(int which, int j, int k) {
        if (which < 0 || which > 3 || isNone(j) || isNone(k)) {
            return false;
        }
        if (which == 3) {
            return related(0, j, k) && related(1, j, k);
        }
        return studied.products(which, j).equals(studied.products(which, k));
    }

    int classes(int which) {
        if (which < 0 || which > 3 || studied == null) {
            return -1;
        }
        TreeSet<String> different = new TreeSet<>();
        for (int k = 0; k < elements(); k++) {
            String right = studied.products(0, k).toString();
            String left = studied.products(1, k).toString();
            different.add(which == 3 ? right + left : studied.products(which, k).toString());
        }
        return different.size();
    }

    int witness(int which) {
        if (which < 0 || which > 5 || studied == null) {
            return -2;
        }
        int least = -1;
        for (int j = elements() - 1; j >= 0; j--) {
            for (int k = elements() - 1; k >= 0; k--) {
                if (isAgainst(which, j, k)) {
                    least = 64 * j + k;
                }
            }
        }
        return least;
    }

    private boolean isAgainst(int which, int j, int k) {
        if (which == 0) {
            return product(j, k) != product(k, j);
        }
        if (which == 5) {
            return j == k && !studied.products(0, j).contains(0);
        }
        return j != k && related(new int[] {-1, 3, 0, 1, 2}[which], j, k);
    }

    private boolean isOut(int i) {
        return i < 0 || i >= list.size();
    }

    private boolean isNone(int k) {
        return studied == null || k < 0 || k >= studied.words.size();
    }

    private Nfa nfa(int i) {
        return list.get(i).nfa();
    }

    private int add(Nfa nfa) {
        if (list.size() == 12) {
            return -2;
        }
        Dfa least = nfa.least();
        if (least.size() > 6) {
            return -3;
        }
        list.add(least);
        return list.size() - 1;
    }

    private static Nfa united(Nfa first, Nfa second) {
        return first.with(second);
    }

    /** All words of up to n letters, the shorter ones first. */
    static List<String> shortWords(int n) {
        List<String> words = new ArrayList<>(List.of(""));
        for (int k = 0; words.get(k).length() < n; k++) {
            words.add(words.get(k) + "a");
            words.add(words.get(k) + "b");
        }
        return words;
    }

    /** An automaton with several next states, perhaps none, and with steps without a letter. */
    static final class Nfa {
        final List<List<TreeSet<Integer>>> steps = new ArrayList<>();
        final List<TreeSet<Integer>> silent = new ArrayList<>();
        TreeSet<Integer> starts = new TreeSet<>();
        TreeSet<Integer> accepting = new TreeSet<>();

        Nfa(int size) {
            for (int q = 0; q < size; q++) {
                steps.add(List.of(new TreeSet<>(), new TreeSet<>()));
                silent.add(new TreeSet<>());
            }
        }

        /** Both beside one another. */
        Nfa with(Nfa other) {
            int shift = steps.size();
            Nfa result = new Nfa(shift + other.steps.size());
            copy(result, 0);
            other.copy(result, shift);
            return result;
        }

        private void copy(Nfa target, int shift) {
            for (int q = 0; q < steps.size(); q++) {
                for (int c = 0; c < 2; c++) {
                    target.steps.get(q + shift).get(c).addAll(shifted(steps.get(q).get(c), shift));
                }
                target.silent.get(q + shift).addAll(shifted(silent.get(q), shift));
            }
            target.starts.addAll(shifted(starts, shift));
            target.accepting.addAll(shifted(accepting, shift));
        }

        private static TreeSet<Integer> shifted(TreeSet<Integer> states, int shift) {
            TreeSet<Integer> result = new TreeSet<>();
            states.forEach(q -> result.add(q + shift));
            return result;
        }

        Nfa turnedRound() {
            Nfa result = new Nfa(steps.size());
            for (int q = 0; q < steps.size(); q++) {
                for (int c = 0; c < 2; c++) {
                    for (int to : steps.get(q).get(c)) {
                        result.steps.get(to).get(c).add(q);
                    }
                }
                for (int to : silent.get(q)) {
                    result.silent.get(to).add(q);
                }
            }
            result.starts.addAll(accepting);
            result.accepting.addAll(starts);
            return result;
        }

        private TreeSet<Integer> closed(TreeSet<Integer> states) {
            TreeSet<Integer> result = new TreeSet<>();
            List<Integer> open = new ArrayList<>(states);
            while (!open.isEmpty()) {
                int q = open.remove(open.size() - 1);
                if (result.add(q)) {
                    open.addAll(silent.get(q));
                }
            }
            return result;
        }

        Dfa bySets() {
            Dfa result = new Dfa();
            Map<TreeSet<Integer>, Integer> numbers = new HashMap<>();
            List<TreeSet<Integer>> sets = new ArrayList<>();
            sets.add(closed(starts));
            numbers.put(sets.get(0), 0);
            for (int s = 0; s < sets.size(); s++) {
                int[] next = new int[2];
                for (int c = 0; c < 2; c++) {
                    TreeSet<Integer> to = new TreeSet<>();
                    for (int q : sets.get(s)) {
                        to.addAll(steps.get(q).get(c));
                    }
                    to = closed(to);
                    if (!numbers.containsKey(to)) {
                        numbers.put(to, sets.size());
                        sets.add(to);
                    }
                    next[c] = numbers.get(to);
                }
                result.steps.add(next);
                result.accepting.add(sets.get(s).stream().anyMatch(accepting::contains));
            }
            return result;
        }

        Dfa least() {
            return turnedRound().bySets().nfa().turnedRound().bySets();
        }
    }

    static final class Dfa {
        final List<int[]> steps = new ArrayList<>();
        final List<Boolean> accepting = new ArrayList<>();

        int size() {
            return steps.size();
        }

        Dfa inverse() {
            Dfa result = new Dfa();
            result.steps.addAll(steps);
            accepting.forEach(yes -> result.accepting.add(!yes));
            return result;
        }

        Nfa nfa() {
            Nfa result = new Nfa(size());
            result.starts.add(0);
            for (int q = 0; q < size(); q++) {
                for (int c = 0; c < 2; c++) {
                    result.steps.get(q).get(c).add(steps.get(q)[c]);
                }
                if (accepting.get(q)) {
                    result.accepting.add(q);
                }
            }
            return result;
        }

        int after(int q, String word) {
            int state = q;
            for (int k = 0; k < word.length(); k++) {
                state = steps.get(state)[word.charAt(k) - 'a'];
            }
            return state;
        }
    }

    /** The least words, found by trying x u y for all x and y of up to five letters: these reach
        all states and tell all states apart, as there are six at most. */
    static final class Studied {
        private static final List<String> AROUND = shortWords(5);
        final List<String> words = new ArrayList<>();
        private final Map<String, Integer> numbers = new HashMap<>();
        private final List<List<TreeSet<Integer>>> sets = new ArrayList<>();
        private int[][] table;
        private final Dfa dfa;
        private final String[] endings;

        Studied(Dfa dfa) {
            this.dfa = dfa;
            endings = new String[dfa.size()];
            for (int q = 0; q < dfa.size(); q++) {
                StringBuilder ending = new StringBuilder();
                for (String y : AROUND) {
                    ending.append(dfa.accepting.get(dfa.after(q, y)) ? '1' : '0');
                }
                endings[q] = ending.toString();
            }
            findWords();
            if (words.size() <= 60) {
                findProducts();
            }
        }

        /** What is in the language of all x u y. */
        private String signature(String u) {
            StringBuilder signature = new StringBuilder();
            for (String x : AROUND) {
                signature.append(endings[dfa.after(dfa.after(0, x), u)]);
            }
            return signature.toString();
        }

        /** A whole length is tried at once, until one brings nothing new or there are too many. */
        private void findWords() {
            List<String> open = List.of("");
            while (!open.isEmpty() && words.size() <= 60) {
                List<String> longer = new ArrayList<>();
                for (String u : open) {
                    if (numbers.putIfAbsent(signature(u), words.size()) == null) {
                        words.add(u);
                        longer.add(u + "a");
                        longer.add(u + "b");
                    }
                }
                open = longer;
            }
        }

        private void findProducts() {
            int n = words.size();
            table = new int[n][n];
            for (int j = 0; j < n; j++) {
                for (int k = 0; k < n; k++) {
                    table[j][k] = numbers.get(signature(words.get(j) + words.get(k)));
                }
            }
            for (int k = 0; k < n; k++) {
                List<TreeSet<Integer>> three = List.of(new TreeSet<>(), new TreeSet<>(), new TreeSet<>());
                for (int x = 0; x < n; x++) {
                    three.get(0).add(table[k][x]);
                    three.get(1).add(table[x][k]);
                    for (int y = 0; y < n; y++) {
                        three.get(2).add(table[table[x][k]][y]);
                    }
                }
                sets.add(three);
            }
        }

        int product(int j, int k) {
            return table[j][k];
        }

        TreeSet<Integer> products(int which, int k) {
            return sets.get(k).get(which);
        }
    }
}
