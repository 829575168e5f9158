/** Counts and prints the answers that are not the ones that are due. */
final class Check {
    private static int wrong = 0;
    private static int asked = 0;
    private static int askedBefore = 0;
    private static String sentence = "";

    private Check() {
    }

    /** What follows tests this sentence of the document: a wrong answer is printed with it. */
    static void sentence(String words) {
        endSentence();
        sentence = words;
        askedBefore = asked;
    }

    static void due(String call, long got, long want) {
        count(call, got == want, Long.toString(got), Long.toString(want));
    }

    static void due(String call, boolean got, boolean want) {
        count(call, got == want, Boolean.toString(got), Boolean.toString(want));
    }

    static void due(String call, String got, String want) {
        count(call, got.equals(want), got, want);
    }

    private static void count(String call, boolean isRight, String got, String want) {
        asked++;
        if (!isRight) {
            wrong++;
            String where = sentence.isEmpty() ? "" : "[" + sentence + "] ";
            System.out.println(where + call + " answered " + got + ", due is " + want);
        }
    }

    static boolean isAnyWrong() {
        return wrong != 0;
    }

    static void end() {
        endSentence();
        System.out.println(wrong == 0 ? asked + " answers are as due" : wrong + " answers are not as due");
        if (wrong != 0) {
            System.exit(1);
        }
    }

    /** A sentence under which nothing was asked has no test. */
    private static void endSentence() {
        if (!sentence.isEmpty() && asked == askedBefore) {
            wrong++;
            System.out.println("[" + sentence + "] has no test");
        }
    }
}
