/** Makes objects with languages in them from texts like "a b unite(0,1) star(2)". */
final class Made {
    private Made() {
    }

    static LetterAlgebra of(String calls) {
        LetterAlgebra x = new LetterAlgebra();
        then(x, calls);
        return x;
    }

    /** Every call of the text must make a language with the next number. */
    static void then(LetterAlgebra x, String calls) {
        for (String call : calls.trim().split("\\s+")) {
            int before = x.count();
            Check.due(call, make(x, call), before);
        }
    }

    static int make(LetterAlgebra x, String call) {
        String[] parts = call.split("[(),]");
        int i = parts.length > 1 ? Integer.parseInt(parts[1]) : 0;
        int j = parts.length > 2 ? Integer.parseInt(parts[2]) : 0;
        switch (parts[0]) {
            case "a": return x.basic(0);
            case "b": return x.basic(1);
            case "empty": return x.basic(2);
            case "none": return x.basic(3);
            case "unite": return x.unite(i, j);
            case "meet": return x.meet(i, j);
            case "chain": return x.chain(i, j);
            case "star": return x.star(i);
            case "invert": return x.invert(i);
            default: throw new IllegalArgumentException(call);
        }
    }

    /** The word as the number that contains() reads: its first letter is the lowest bit. */
    static long bits(String word) {
        long letters = 0;
        for (int k = 0; k < word.length(); k++) {
            if (word.charAt(k) == 'b') {
                letters |= 1L << k;
            }
        }
        return letters;
    }

    static boolean has(LetterAlgebra x, int i, String word) {
        return x.contains(i, bits(word), word.length());
    }

    /** The word as the number that word() answers. */
    static long number(String word) {
        long number = 1;
        for (int k = 0; k < word.length(); k++) {
            number = 2 * number + (word.charAt(k) == 'b' ? 1 : 0);
        }
        return number;
    }
}
