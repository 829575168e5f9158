import java.util.Arrays;

/** Regular languages over the letters a (0) and b (1), and the algebra of one of them at a time. */
public final class LetterAlgebra {

    public static final int BAD = -1;
    public static final int FULL = -2;
    public static final int LARGE = -3;

    private static final int LETTERS = 2;
    private static final int MOST_LANGUAGES = 12;
    private static final int MOST_STATES = 6;
    private static final int MOST_ELEMENTS = 60;
    private static final int LONGEST_WORD = 64;

    /** How many sets of states an automaton can have. */
    private static final int STATE_SETS = 1 << MOST_STATES;
    /** The codes of a chain are the most that any machine uses: a state and a set of states. */
    private static final int MOST_CODES = MOST_STATES * STATE_SETS;

    private static final int BASIC_KINDS = 4;
    private static final int ONLY_EMPTY_WORD = 2;

    private static final int RELATIONS = 4;
    private static final int BY_RIGHT = 0;
    private static final int BY_LEFT = 1;
    private static final int BY_BOTH_SIDES = 2;
    private static final int BY_RIGHT_AND_LEFT = 3;

    private static final int COMMUTATIVE = 0;
    private static final int TRIVIAL_BY_RIGHT_AND_LEFT = 1;
    private static final int TRIVIAL_BY_RIGHT = 2;
    private static final int TRIVIAL_BY_LEFT = 3;
    private static final int TRIVIAL_BY_BOTH_SIDES = 4;
    private static final int GROUP = 5;
    private static final int NOTHING_AGAINST = -1;
    private static final int NO_PROPERTY = -2;
    private static final int PAIR_BASE = 64;

    private final Automaton[] languages = new Automaton[MOST_LANGUAGES];
    private int languageCount;
    private final Reducer reducer = new Reducer();
    private final Algebra algebra = new Algebra();

    public LetterAlgebra() {
        for (int i = 0; i < MOST_LANGUAGES; i++) {
            languages[i] = new Automaton();
        }
    }

    public int basic(int kind) {
        if (kind < 0 || kind >= BASIC_KINDS) {
            return BAD;
        }
        return add(new BasicMachine(kind));
    }

    public int unite(int i, int j) {
        if (!isListed(i) || !isListed(j)) {
            return BAD;
        }
        return add(new PairMachine(languages[i], languages[j], false));
    }

    public int meet(int i, int j) {
        if (!isListed(i) || !isListed(j)) {
            return BAD;
        }
        return add(new PairMachine(languages[i], languages[j], true));
    }

    public int chain(int i, int j) {
        if (!isListed(i) || !isListed(j)) {
            return BAD;
        }
        return add(new ChainMachine(languages[i], languages[j]));
    }

    public int star(int i) {
        if (!isListed(i)) {
            return BAD;
        }
        return add(new StarMachine(languages[i]));
    }

    public int invert(int i) {
        if (!isListed(i)) {
            return BAD;
        }
        return add(new InverseMachine(languages[i]));
    }

    public boolean forget() {
        if (languageCount == 0) {
            return false;
        }
        languageCount--;
        return true;
    }

    public int count() {
        return languageCount;
    }

    public int states(int i) {
        return isListed(i) ? languages[i].size : BAD;
    }

    public int next(int i, int q, int c) {
        if (!isListed(i) || !languages[i].hasState(q) || c < 0 || c >= LETTERS) {
            return BAD;
        }
        return languages[i].step(q, c);
    }

    public boolean accepts(int i, int q) {
        return isListed(i) && languages[i].hasState(q) && languages[i].isAccepting(q);
    }

    public boolean contains(int i, long letters, int n) {
        if (!isListed(i) || n < 0 || n > LONGEST_WORD) {
            return false;
        }
        Automaton automaton = languages[i];
        int state = 0;
        for (int k = 0; k < n; k++) {
            state = automaton.step(state, (int) (letters >>> k) & 1);
        }
        return automaton.isAccepting(state);
    }

    public boolean same(int i, int j) {
        return isListed(i) && isListed(j) && languages[i].isLike(languages[j]);
    }

    public int study(int i) {
        if (!isListed(i)) {
            return BAD;
        }
        return algebra.workOut(languages[i]) ? algebra.size : LARGE;
    }

    public int elements() {
        return algebra.isWorkedOut() ? algebra.size : BAD;
    }

    public long word(int k) {
        return algebra.hasElement(k) ? algebra.leastWords[k] : BAD;
    }

    public int product(int j, int k) {
        if (!algebra.hasElement(j) || !algebra.hasElement(k)) {
            return BAD;
        }
        return algebra.multiply(j, k);
    }

    public boolean related(int which, int j, int k) {
        return isRelation(which) && algebra.hasElement(j) && algebra.hasElement(k)
            && algebra.areRelated(which, j, k);
    }

    public int classes(int which) {
        if (!isRelation(which) || !algebra.isWorkedOut()) {
            return BAD;
        }
        return algebra.countClasses(which);
    }

    public int witness(int which) {
        if (which < COMMUTATIVE || which > GROUP || !algebra.isWorkedOut()) {
            return NO_PROPERTY;
        }
        for (int j = 0; j < algebra.size; j++) {
            for (int k = 0; k < algebra.size; k++) {
                if (algebra.isAgainst(which, j, k)) {
                    return PAIR_BASE * j + k;
                }
            }
        }
        return NOTHING_AGAINST;
    }

    private boolean isListed(int i) {
        return i >= 0 && i < languageCount;
    }

    private static boolean isRelation(int which) {
        return which >= 0 && which < RELATIONS;
    }

    /** Written straight into the first free place: if it is refused, that place stays free. */
    private int add(Machine machine) {
        if (languageCount >= MOST_LANGUAGES) {
            return FULL;
        }
        if (!reducer.reduce(machine, languages[languageCount])) {
            return LARGE;
        }
        languageCount++;
        return languageCount - 1;
    }

    /** The least automaton of a language, its states numbered as they are first met. */
    private static final class Automaton {
        private int size;
        private int acceptingSet;
        private final int[] steps = new int[LETTERS * MOST_STATES];

        boolean hasState(int q) {
            return q >= 0 && q < size;
        }

        int step(int q, int letter) {
            return steps[LETTERS * q + letter];
        }

        boolean isAccepting(int q) {
            return (acceptingSet >> q & 1) != 0;
        }

        boolean acceptsAnyOf(int set) {
            return (acceptingSet & set) != 0;
        }

        /** The states that are next to those of a set, which has the bit 2^q for state q. */
        int stepSet(int set, int letter) {
            int result = 0;
            for (int q = 0; q < size; q++) {
                if ((set >> q & 1) != 0) {
                    result |= 1 << step(q, letter);
                }
            }
            return result;
        }

        /** What the empty word does to the states: three bits for each tell where it leads. */
        int emptyWordMap() {
            int map = 0;
            for (int q = 0; q < size; q++) {
                map |= q << 3 * q;
            }
            return map;
        }

        /** What a word does to the states when one more letter is put behind it. */
        int stepMap(int map, int letter) {
            int result = 0;
            for (int q = 0; q < size; q++) {
                result |= step(map >> 3 * q & 7, letter) << 3 * q;
            }
            return result;
        }

        /** There is just one numbering, so the same words mean the same steps. */
        boolean isLike(Automaton other) {
            if (size != other.size || acceptingSet != other.acceptingSet) {
                return false;
            }
            for (int s = 0; s < LETTERS * size; s++) {
                if (steps[s] != other.steps[s]) {
                    return false;
                }
            }
            return true;
        }
    }

    /** An automaton, not the least one as a rule, whose states are codes below MOST_CODES. */
    private interface Machine {
        int startCode();

        int stepCode(int code, int letter);

        boolean isAcceptingCode(int code);
    }

    /** The codes are 0 for the empty word, 1 for the word of the letter kind, 2 for all others. */
    private static final class BasicMachine implements Machine {
        private final int kind;

        BasicMachine(int kind) {
            this.kind = kind;
        }

        public int startCode() {
            return 0;
        }

        public int stepCode(int code, int letter) {
            return code == 0 && letter == kind ? 1 : 2;
        }

        public boolean isAcceptingCode(int code) {
            return kind < LETTERS ? code == 1 : kind == ONLY_EMPTY_WORD && code == 0;
        }
    }

    /** Goes through two automata side by side. */
    private static final class PairMachine implements Machine {
        private final Automaton first;
        private final Automaton second;
        private final boolean needsBoth;

        PairMachine(Automaton first, Automaton second, boolean needsBoth) {
            this.first = first;
            this.second = second;
            this.needsBoth = needsBoth;
        }

        public int startCode() {
            return 0;
        }

        public int stepCode(int code, int letter) {
            int p = first.step(code / MOST_STATES, letter);
            int q = second.step(code % MOST_STATES, letter);
            return MOST_STATES * p + q;
        }

        public boolean isAcceptingCode(int code) {
            boolean inFirst = first.isAccepting(code / MOST_STATES);
            boolean inSecond = second.isAccepting(code % MOST_STATES);
            return needsBoth ? inFirst && inSecond : inFirst || inSecond;
        }
    }

    /** Holds the first one's state and where each word of the second one begun so far has come to. */
    private static final class ChainMachine implements Machine {
        private final Automaton first;
        private final Automaton second;

        ChainMachine(Automaton first, Automaton second) {
            this.first = first;
            this.second = second;
        }

        public int startCode() {
            return codeOf(0, 0);
        }

        public int stepCode(int code, int letter) {
            int p = first.step(code / STATE_SETS, letter);
            int set = second.stepSet(code % STATE_SETS, letter);
            return codeOf(p, set);
        }

        public boolean isAcceptingCode(int code) {
            return second.acceptsAnyOf(code % STATE_SETS);
        }

        /** Where a word of the first one ends, one of the second may begin. */
        private int codeOf(int p, int set) {
            int begun = first.isAccepting(p) ? set | 1 : set;
            return STATE_SETS * p + begun;
        }
    }

    /** Holds where each way to part the word has come to; the start has a code of its own,
        because the empty word is accepted even if state 0 is not accepting. */
    private static final class StarMachine implements Machine {
        private static final int START = STATE_SETS;
        private final Automaton part;

        StarMachine(Automaton part) {
            this.part = part;
        }

        public int startCode() {
            return START;
        }

        public int stepCode(int code, int letter) {
            int set = part.stepSet(code == START ? 1 : code, letter);
            return part.acceptsAnyOf(set) ? set | 1 : set;
        }

        public boolean isAcceptingCode(int code) {
            return code == START || part.acceptsAnyOf(code);
        }
    }

    private static final class InverseMachine implements Machine {
        private final Automaton inner;

        InverseMachine(Automaton inner) {
            this.inner = inner;
        }

        public int startCode() {
            return 0;
        }

        public int stepCode(int code, int letter) {
            return inner.step(code, letter);
        }

        public boolean isAcceptingCode(int code) {
            return !inner.isAccepting(code);
        }
    }

    /** Makes the least automaton of a machine. Its rows are used again by every call. */
    private static final class Reducer {
        private static final int NOT_MET = -1;
        private static final int TOO_MANY = -1;

        private final int[] numberOfCode = new int[MOST_CODES];
        private final int[] codes = new int[MOST_CODES];
        private final int[] steps = new int[LETTERS * MOST_CODES];
        private int size;

        private int[] parts = new int[MOST_CODES];
        private int[] finerParts = new int[MOST_CODES];
        private final int[] firstOfPart = new int[MOST_STATES];

        /** False, with the target as it was, if more than MOST_STATES states are needed. */
        boolean reduce(Machine machine, Automaton target) {
            explore(machine);
            partByAcceptance(machine);
            int partCount = refine();
            if (partCount == TOO_MANY) {
                return false;
            }
            write(machine, partCount, target);
            return true;
        }

        private void explore(Machine machine) {
            Arrays.fill(numberOfCode, NOT_MET);
            size = 0;
            numberFor(machine.startCode());
            for (int s = 0; s < size && s < MOST_CODES; s++) {
                for (int letter = 0; letter < LETTERS; letter++) {
                    steps[LETTERS * s + letter] = numberFor(machine.stepCode(codes[s], letter));
                }
            }
        }

        private int numberFor(int code) {
            if (numberOfCode[code] == NOT_MET) {
                numberOfCode[code] = size;
                codes[size] = code;
                size++;
            }
            return numberOfCode[code];
        }

        private void partByAcceptance(Machine machine) {
            for (int s = 0; s < size; s++) {
                parts[s] = machine.isAcceptingCode(codes[s]) ? 1 : 0;
            }
        }

        /** Splits until nothing more splits. Each round but the last finds one part more
            at least, so MOST_STATES + 1 rounds are enough. */
        private int refine() {
            int partCount = 0;
            for (int round = 0; round <= MOST_STATES; round++) {
                int finerCount = split();
                if (finerCount == TOO_MANY || finerCount == partCount) {
                    return finerCount;
                }
                partCount = finerCount;
            }
            return TOO_MANY;
        }

        /** The states were numbered as they were met, and a part gets its number at its first
            state: so the parts, too, are numbered in the order in which they are met. */
        private int split() {
            int found = 0;
            for (int s = 0; s < size; s++) {
                int part = partLike(s, found);
                if (part == MOST_STATES) {
                    return TOO_MANY;
                }
                if (part == found) {
                    firstOfPart[found] = s;
                    found++;
                }
                finerParts[s] = part;
            }
            int[] coarser = parts;
            parts = finerParts;
            finerParts = coarser;
            return found;
        }

        private int partLike(int s, int found) {
            for (int part = 0; part < found; part++) {
                if (goAlike(s, firstOfPart[part])) {
                    return part;
                }
            }
            return found;
        }

        private boolean goAlike(int s, int t) {
            return parts[s] == parts[t]
                && parts[steps[LETTERS * s]] == parts[steps[LETTERS * t]]
                && parts[steps[LETTERS * s + 1]] == parts[steps[LETTERS * t + 1]];
        }

        private void write(Machine machine, int partCount, Automaton target) {
            target.size = partCount;
            target.acceptingSet = 0;
            for (int part = 0; part < partCount; part++) {
                int s = firstOfPart[part];
                for (int letter = 0; letter < LETTERS; letter++) {
                    target.steps[LETTERS * part + letter] = parts[steps[LETTERS * s + letter]];
                }
                if (machine.isAcceptingCode(codes[s])) {
                    target.acceptingSet |= 1 << part;
                }
            }
        }
    }

    /** The algebra that was worked out last. Words are alike in a language just when they do
        the same to the states of its least automaton. */
    private static final class Algebra {
        // The rows of the search: they may hold one that found too many elements.
        private final int[] maps = new int[MOST_ELEMENTS];
        private final int[] longer = new int[LETTERS * MOST_ELEMENTS];
        private final int[] shorter = new int[MOST_ELEMENTS];
        private final int[] lastLetters = new int[MOST_ELEMENTS];

        private int size;
        private final long[] leastWords = new long[MOST_ELEMENTS];
        private final int[] products = new int[MOST_ELEMENTS * MOST_ELEMENTS];
        // Sets of elements, with the bit 2^k for element k.
        private final long[] rightProducts = new long[MOST_ELEMENTS];
        private final long[] leftProducts = new long[MOST_ELEMENTS];
        private final long[] bothSidesProducts = new long[MOST_ELEMENTS];

        boolean isWorkedOut() {
            return size > 0;
        }

        boolean hasElement(int k) {
            return k >= 0 && k < size;
        }

        int multiply(int j, int k) {
            return products[MOST_ELEMENTS * j + k];
        }

        /** False, with the algebra as it was, if there are more than MOST_ELEMENTS elements. */
        boolean workOut(Automaton automaton) {
            int found = search(automaton);
            if (found > MOST_ELEMENTS) {
                return false;
            }
            size = found;
            keepWords();
            keepProducts();
            keepSets();
            return true;
        }

        /** Without its last letter the least word of an element is again a least word: so going
            over the elements in order, each longer by a and then by b, meets them in order. */
        private int search(Automaton automaton) {
            maps[0] = automaton.emptyWordMap();
            int found = 1;
            for (int k = 0; k < found && k < MOST_ELEMENTS; k++) {
                for (int letter = 0; letter < LETTERS; letter++) {
                    int map = automaton.stepMap(maps[k], letter);
                    int place = placeOf(map, found);
                    if (place == MOST_ELEMENTS) {
                        return MOST_ELEMENTS + 1;
                    }
                    if (place == found) {
                        maps[found] = map;
                        shorter[found] = k;
                        lastLetters[found] = letter;
                        found++;
                    }
                    longer[LETTERS * k + letter] = place;
                }
            }
            return found;
        }

        private int placeOf(int map, int found) {
            for (int k = 0; k < found; k++) {
                if (maps[k] == map) {
                    return k;
                }
            }
            return found;
        }

        private void keepWords() {
            leastWords[0] = 1;
            for (int k = 1; k < size; k++) {
                leastWords[k] = 2 * leastWords[shorter[k]] + lastLetters[k];
            }
        }

        private void keepProducts() {
            for (int j = 0; j < size; j++) {
                int row = MOST_ELEMENTS * j;
                products[row] = j;
                for (int k = 1; k < size; k++) {
                    products[row + k] = longer[LETTERS * products[row + shorter[k]] + lastLetters[k]];
                }
            }
        }

        private void keepSets() {
            for (int j = 0; j < size; j++) {
                rightProducts[j] = 0;
                leftProducts[j] = 0;
                for (int x = 0; x < size; x++) {
                    rightProducts[j] |= 1L << multiply(j, x);
                    leftProducts[j] |= 1L << multiply(x, j);
                }
            }
            for (int j = 0; j < size; j++) {
                bothSidesProducts[j] = 0;
                for (int x = 0; x < size; x++) {
                    bothSidesProducts[j] |= rightProducts[multiply(x, j)];
                }
            }
        }

        boolean areRelated(int which, int j, int k) {
            switch (which) {
                case BY_RIGHT:
                    return rightProducts[j] == rightProducts[k];
                case BY_LEFT:
                    return leftProducts[j] == leftProducts[k];
                case BY_BOTH_SIDES:
                    return bothSidesProducts[j] == bothSidesProducts[k];
                case BY_RIGHT_AND_LEFT:
                    return rightProducts[j] == rightProducts[k] && leftProducts[j] == leftProducts[k];
                default:
                    return false;
            }
        }

        /** Counts the first element of each class. */
        int countClasses(int which) {
            int counted = 0;
            for (int k = 0; k < size; k++) {
                if (isFirstOfClass(which, k)) {
                    counted++;
                }
            }
            return counted;
        }

        private boolean isFirstOfClass(int which, int k) {
            for (int j = 0; j < k; j++) {
                if (areRelated(which, j, k)) {
                    return false;
                }
            }
            return true;
        }

        boolean isAgainst(int property, int j, int k) {
            switch (property) {
                case COMMUTATIVE:
                    return multiply(j, k) != multiply(k, j);
                case TRIVIAL_BY_RIGHT_AND_LEFT:
                    return j != k && areRelated(BY_RIGHT_AND_LEFT, j, k);
                case TRIVIAL_BY_RIGHT:
                    return j != k && areRelated(BY_RIGHT, j, k);
                case TRIVIAL_BY_LEFT:
                    return j != k && areRelated(BY_LEFT, j, k);
                case TRIVIAL_BY_BOTH_SIDES:
                    return j != k && areRelated(BY_BOTH_SIDES, j, k);
                case GROUP:
                    return j == k && (rightProducts[j] & 1) == 0;
                default:
                    return false;
            }
        }
    }
}
