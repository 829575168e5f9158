/** Makes objects with languages in them from texts like "a b unite(0,1) star(2)". */
final class Made {
    private Made() {
    }

    static LetterAlgebra of(String calls) {
        LetterAlgebra x = new LetterAlgebra();
        then(x, calls);
        return x;
    }

    /** Every call of the text must make a language with the next number. */
    static void then(LetterAlgebra x, String calls) {
        for (String call : calls.trim().split("\\s+")) {
            int before = x.count();
            Check.due(call, make(x, call), before);
        }
    }

    static int make(LetterAlgebra x, String call) {
        int i = argument(call, 0);
        int j = argument(call, 1);
        switch (name(call)) {
            case "a": return x.basic(0);
            case "b": return x.basic(1);
            case "empty": return x.basic(2);
            case "none": return x.basic(3);
            case "basic": return x.basic(i);
            case "unite": return x.unite(i, j);
            case "meet": return x.meet(i, j);
            case "chain": return x.chain(i, j);
            case "star": return x.star(i);
            case "invert": return x.invert(i);
            default: throw new IllegalArgumentException(call);
        }
    }

    static int make(Model model, String call) {
        int i = argument(call, 0);
        int j = argument(call, 1);
        switch (name(call)) {
            case "a": return model.basic(0);
            case "b": return model.basic(1);
            case "empty": return model.basic(2);
            case "none": return model.basic(3);
            case "basic": return model.basic(i);
            case "unite": return model.unite(i, j);
            case "meet": return model.meet(i, j);
            case "chain": return model.chain(i, j);
            case "star": return model.star(i);
            case "invert": return model.invert(i);
            default: throw new IllegalArgumentException(call);
        }
    }

    private static String name(String call) {
        return call.split("[(),]")[0];
    }

    private static int argument(String call, int place) {
        String[] parts = call.split("[(),]");
        return place + 1 < parts.length ? Integer.parseInt(parts[place + 1]) : 0;
    }

    /** The word as the number that contains() reads: its first letter is the lowest bit. */
    static long bits(String word) {
        long letters = 0;
        for (int k = 0; k < word.length(); k++) {
            if (word.charAt(k) == 'b') {
                letters |= 1L << k;
            }
        }
        return letters;
    }

    static boolean has(LetterAlgebra x, int i, String word) {
        return x.contains(i, bits(word), word.length());
    }

    /** The word as the number that word() answers. */
    static long number(String word) {
        long number = 1;
        for (int k = 0; k < word.length(); k++) {
            number = 2 * number + (word.charAt(k) == 'b' ? 1 : 0);
        }
        return number;
    }
}
