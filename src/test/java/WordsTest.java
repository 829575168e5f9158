import java.util.ArrayList;
import java.util.HashSet;
import java.util.List;
import java.util.Random;
import java.util.Set;

/** The operations by their very definition, on the words of up to nine letters; and that words
    which are no least ones are found alike to a lesser word. */
public final class WordsTest {
    private static final int LONGEST = 9;
    private static final int RUNS = 150;
    private static final List<String> WORDS = Model.shortWords(LONGEST);

    public static void main(String[] args) {
        for (int run = 0; run < RUNS && !Check.isAnyWrong(); run++) {
            oneRun(new Random(run), "run " + run + ": ");
        }
        Check.end();
    }

    private static void oneRun(Random random, String name) {
        Renewed x = new Renewed();
        for (String call : List.of("a", "b", "empty", "none")) {
            x.change(y -> Made.make(y, call));
        }
        List<Set<String>> sets = new ArrayList<>(List.of(Set.of("a"), Set.of("b"), Set.of(""), Set.of()));
        for (int call = 0; call < 14; call++) {
            int i = random.nextInt(sets.size());
            int j = random.nextInt(sets.size());
            int kind = random.nextInt(5);
            int answer = x.change(y -> make(y, kind, i, j));
            if (answer >= 0) {
                Check.due(name + "number", answer, sets.size());
                sets.add(made(kind, sets.get(i), sets.get(j)));
                compare(x, answer, sets.get(answer), name + "kind " + kind + " of " + i + ", " + j + " ");
            }
        }
        leastWords(x, sets.size() - 1, name);
    }

    private static int make(LetterAlgebra x, int kind, int i, int j) {
        switch (kind) {
            case 0: return x.unite(i, j);
            case 1: return x.meet(i, j);
            case 2: return x.chain(i, j);
            case 3: return x.star(i);
            default: return x.invert(i);
        }
    }

    private static Set<String> made(int kind, Set<String> first, Set<String> second) {
        switch (kind) {
            case 0: return united(first, second);
            case 1: return met(first, second);
            case 2: return chained(first, second);
            case 3: return starred(first);
            default: return inverted(first);
        }
    }

    private static Set<String> united(Set<String> first, Set<String> second) {
        Set<String> result = new HashSet<>(first);
        result.addAll(second);
        return result;
    }

    private static Set<String> met(Set<String> first, Set<String> second) {
        Set<String> result = new HashSet<>(first);
        result.retainAll(second);
        return result;
    }

    private static Set<String> inverted(Set<String> first) {
        Set<String> result = new HashSet<>(WORDS);
        result.removeAll(first);
        return result;
    }

    private static Set<String> chained(Set<String> first, Set<String> second) {
        Set<String> result = new HashSet<>();
        for (String word : WORDS) {
            for (int cut = 0; cut <= word.length(); cut++) {
                if (first.contains(word.substring(0, cut)) && second.contains(word.substring(cut))) {
                    result.add(word);
                }
            }
        }
        return result;
    }

    private static Set<String> starred(Set<String> first) {
        Set<String> result = new HashSet<>(Set.of(""));
        for (String word : WORDS) {
            for (int cut = 0; cut < word.length(); cut++) {
                if (result.contains(word.substring(0, cut)) && first.contains(word.substring(cut))) {
                    result.add(word);
                }
            }
        }
        return result;
    }

    private static void compare(Renewed x, int i, Set<String> set, String name) {
        for (String word : WORDS) {
            Check.due(name + "has '" + word + "'", Made.has(x.ask(), i, word), set.contains(word));
        }
    }

    /** Multiplies every short word out letter by letter, and looks where its element first was met. */
    private static void leastWords(Renewed x, int i, String name) {
        int n = x.change(y -> y.study(i));
        Check.due(name + "elements", x.ask().elements(), n < 0 ? -1 : n);
        if (n < 0) {
            return;
        }
        int a = elementOf(x, i, "a");
        int b = elementOf(x, i, "b");
        long[] first = new long[n];
        for (String word : WORDS) {
            int element = 0;
            for (int k = 0; k < word.length(); k++) {
                element = x.ask().product(element, word.charAt(k) == 'a' ? a : b);
            }
            if (first[element] == 0) {
                first[element] = Made.number(word);
                Check.due(name + "word " + element, x.ask().word(element), first[element]);
            }
        }
    }

    /** The element of a letter, by what the letter does to the states. */
    private static int elementOf(Renewed x, int i, String letter) {
        int c = letter.charAt(0) - 'a';
        for (int k = 0; k < x.ask().elements(); k++) {
            String word = Long.toBinaryString(x.ask().word(k)).substring(1);
            boolean alike = true;
            for (int q = 0; q < x.ask().states(i); q++) {
                int state = q;
                for (int l = 0; l < word.length(); l++) {
                    state = x.ask().next(i, state, word.charAt(l) - '0');
                }
                alike &= state == x.ask().next(i, q, c);
            }
            if (alike) {
                return k;
            }
        }
        return -1;
    }
}
