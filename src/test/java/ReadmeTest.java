import java.io.IOException;
import java.nio.file.Files;
import java.nio.file.Path;
import java.util.ArrayList;
import java.util.List;

/** README.md shows calls, each with its answer behind it: these are the answers. */
public final class ReadmeTest {
    private static final List<String> LINES = new ArrayList<>();
    private static int asked = 0;

    public static void main(String[] args) throws IOException {
        readLines();
        LetterAlgebra x = new LetterAlgebra();
        int a = x.basic(0);
        answered("int a = x.basic(0);", a);
        int b = x.basic(1);
        answered("int b = x.basic(1);", b);
        int ab = x.chain(a, b);
        answered("int ab = x.chain(a, b);", ab);
        int abs = x.star(ab);
        answered("int abs = x.star(ab);", abs);
        answered("x.count();", x.count());
        answered("x.states(abs);", x.states(abs));
        answered("x.next(abs, 0, 1);", x.next(abs, 0, 1));
        answered("x.accepts(abs, 2);", x.accepts(abs, 2));
        answered("x.contains(abs, 0b1010, 4);", x.contains(abs, 0b1010, 4));
        answered("x.same(ab, abs);", x.same(ab, abs));
        answered("x.study(abs);", x.study(abs));
        answered("x.word(4);", x.word(4));
        answered("x.product(1, 2);", x.product(1, 2));
        answered("x.related(2, 1, 2);", x.related(2, 1, 2));
        answered("x.classes(2);", x.classes(2));
        answered("x.witness(0);", x.witness(0));
        answered("x.witness(1);", x.witness(1));
        answered("x.forget();", x.forget());
        answered("x.states(abs);", x.states(abs));
        answered("x.elements();", x.elements());
        Check.due("calls in README.md", LINES.size(), asked);
        Check.end();
    }

    /** The lines of README.md that are a call with an answer. */
    private static void readLines() throws IOException {
        for (String line : Files.readAllLines(Path.of("README.md"))) {
            if (line.contains("x.") && line.contains("; ") && line.contains("// ")) {
                LINES.add(line);
            }
        }
    }

    private static void answered(String call, Object answer) {
        String line = asked < LINES.size() ? LINES.get(asked) : "";
        asked++;
        Check.due("README.md's call " + asked, line.split("//")[0].trim(), call);
        String due = line.contains("// ") ? line.split("// ")[1].split(":")[0].trim() : "";
        Check.due(call, answer.toString(), due);
    }
}
