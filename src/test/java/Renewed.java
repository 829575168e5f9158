import java.util.ArrayList;
import java.util.List;
import java.util.function.ToIntFunction;

/** An object that may be asked without end: nothing is promised after its 512th call, so before
    that a new one is brought to the same state and asked instead. */
final class Renewed {
    private static final int MOST_CALLS = 512;

    private final List<ToIntFunction<LetterAlgebra>> changes = new ArrayList<>();
    private LetterAlgebra object = new LetterAlgebra();
    private int calls = 0;

    /** A call that may change the object. */
    int change(ToIntFunction<LetterAlgebra> call) {
        int answer = call.applyAsInt(ask());
        changes.add(call);
        return answer;
    }

    /** The object, for one call that changes nothing. */
    LetterAlgebra ask() {
        if (calls == MOST_CALLS) {
            renew();
        }
        calls++;
        return object;
    }

    private void renew() {
        if (changes.size() >= MOST_CALLS) {
            throw new IllegalStateException("too many changes to make them again");
        }
        object = new LetterAlgebra();
        for (ToIntFunction<LetterAlgebra> change : changes) {
            change.applyAsInt(object);
        }
        calls = changes.size();
    }
}
