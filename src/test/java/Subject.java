import java.util.ArrayList;
import java.util.List;
import java.util.function.Function;

/**
 * An object within its 512 calls: when they are used up, a new one takes its place, brought to the same
 * state by the same calls. So no test holds the class to more than the document promises.
 */
final class Subject {
    static final int MOST_CALLS = 512;

    private final List<Function<SlotForest, ?>> past = new ArrayList<>();
    private SlotForest object = new SlotForest();
    private int calls = 0;

    boolean type(long word, int n) {
        return change(x -> x.type(word, n));
    }

    int grammar() {
        return change(x -> x.grammar());
    }

    boolean parse() {
        return change(x -> x.parse());
    }

    int fault(int what) {
        return ask(x -> x.fault(what));
    }

    int size(int what) {
        return ask(x -> x.size(what));
    }

    int rule(int alternate, int k) {
        return ask(x -> x.rule(alternate, k));
    }

    int set(int what, int x) {
        return ask(forest -> forest.set(what, x));
    }

    boolean reached(int slot, int j, int i) {
        return ask(x -> x.reached(slot, j, i));
    }

    int looked(int what) {
        return ask(x -> x.looked(what));
    }

    int count(int what) {
        return ask(x -> x.count(what));
    }

    int packed(int y, int i, int k) {
        return ask(x -> x.packed(y, i, k));
    }

    long trees() {
        return ask(x -> x.trees());
    }

    int least() {
        return ask(x -> x.least());
    }

    int step(int k, int what) {
        return ask(x -> x.step(k, what));
    }

    /** How many calls have made the object what it is. */
    int changes() {
        return past.size();
    }

    SlotForest object() {
        return object;
    }

    private <R> R change(Function<SlotForest, R> call) {
        if (past.size() >= MOST_CALLS) {
            throw new AssertionError("a test changes one object too often");
        }
        countCall();
        past.add(call);
        return call.apply(object);
    }

    private <R> R ask(Function<SlotForest, R> call) {
        if (past.size() >= MOST_CALLS) {
            throw new AssertionError("a test leaves itself nothing to ask");
        }
        countCall();
        return call.apply(object);
    }

    private void countCall() {
        if (calls == MOST_CALLS) {
            object = new SlotForest();
            for (Function<SlotForest, ?> call : past) {
                repeat(call);
            }
            calls = past.size();
        }
        calls++;
    }

    private void repeat(Function<SlotForest, ?> call) {
        try {
            call.apply(object);
        } catch (IllegalArgumentException | IllegalStateException e) {
            // It was thrown the first time, too, and the test has looked at it then.
        }
    }
}
