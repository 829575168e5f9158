/** Every answer about the languages of the corpus, compared with the model. */
public final class CorpusTest {
    public static void main(String[] args) {
        Check.due("runs by elements", Corpus.BY_ELEMENTS.length, 60);
        for (int n = 1; n <= Corpus.BY_ELEMENTS.length; n++) {
            elements(Corpus.BY_ELEMENTS[n - 1], n);
        }
        for (String calls : Corpus.TOO_MANY_ELEMENTS) {
            elements(calls, -3);
        }
        for (String calls : Corpus.BY_STATES) {
            states(calls, true);
        }
        for (String calls : Corpus.TOO_MANY_STATES) {
            states(calls, false);
        }
        Check.end();
    }

    private static void elements(String calls, int due) {
        Renewed x = new Renewed();
        Model model = new Model();
        run(x, model, calls);
        int last = model.count() - 1;
        Check.due(calls + " study", x.change(y -> y.study(last)), due);
        Check.due(calls + " study of the model", model.study(last), due);
        ModelTest.algebra(x, model, calls + " ");
    }

    private static void states(String calls, boolean isKept) {
        Renewed x = new Renewed();
        Model model = new Model();
        int answer = run(x, model, calls);
        Check.due(calls + " is kept", answer >= 0, isKept);
        for (int i = 0; i < model.count(); i++) {
            ModelTest.automaton(x, model, i, calls + ", language " + i + " ");
        }
    }

    private static int run(Renewed x, Model model, String calls) {
        int answer = -1;
        for (String call : calls.split(" ")) {
            answer = x.change(y -> Made.make(y, call));
            Check.due(calls + ": " + call, answer, Made.make(model, call));
        }
        return answer;
    }
}
