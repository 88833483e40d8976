import java.util.ArrayList;
import java.util.List;
import java.util.function.ToIntFunction;

/**
 * An object at work that is never used for more calls than the document promises answers for: before they are used up,
 * a new one takes its place, and all calls that may change something are done over again on it.
 */
final class Session {
    private static final int MOST_CALLS = 512;

    private final List<ToIntFunction<TextTools>> changes = new ArrayList<>();
    private TextTools tools = new TextTools();
    private int calls;

    int feed(int a, int b, int c, int d, int e) {
        return change(t -> t.feed(a, b, c, d, e));
    }

    void end(int n) {
        change(t -> {
            t.end(n);
            return 0;
        });
    }

    int store(int file) {
        return change(t -> t.store(file));
    }

    boolean drop(int file) {
        return change(t -> t.drop(file) ? 1 : 0) == 1;
    }

    int run() {
        return change(TextTools::run);
    }

    int fault() {
        return call(TextTools::fault);
    }

    int line() {
        return call(TextTools::line);
    }

    int side() {
        return call(TextTools::side);
    }

    int lines(int file) {
        return call(t -> t.lines(file));
    }

    int length(int file, int line) {
        return call(t -> t.length(file, line));
    }

    int byteAt(int file, int line, int i) {
        return call(t -> t.byteAt(file, line, i));
    }

    // A call that throws is kept, too: if it did change something, that must not be lost on the new object.
    private int change(ToIntFunction<TextTools> call) {
        if (changes.size() >= MOST_CALLS - 1) {
            throw new AssertionError("this test needs more calls than an object has");
        }
        renewIfUsedUp();
        changes.add(call);
        calls++;
        return call.applyAsInt(tools);
    }

    private int call(ToIntFunction<TextTools> call) {
        renewIfUsedUp();
        calls++;
        return call.applyAsInt(tools);
    }

    private void renewIfUsedUp() {
        if (calls < MOST_CALLS) {
            return;
        }
        tools = new TextTools();
        for (ToIntFunction<TextTools> change : changes) {
            try {
                change.applyAsInt(tools);
            } catch (RuntimeException e) {
                continue;
            }
        }
        calls = changes.size();
    }
}
