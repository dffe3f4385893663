import java.util.ArrayList;
import java.util.List;
import java.util.function.ToIntFunction;

/**
 * An object that can be asked more than its 512 calls allow: when they are used up, a new object is
 * brought to the same state by the same changing calls. These alone must leave some calls to ask with.
 */
final class LongRun {
    private static final int MOST_CALLS = 512;

    private final List<ToIntFunction<PageMaker>> changes = new ArrayList<>();
    private PageMaker maker = new PageMaker();
    private int calls = 0;

    void frame(int height, int top, int greatest) {
        change(x -> {
            x.frame(height, top, greatest);
            return 0;
        });
    }

    int box(int tag, int height, int depth) {
        return change(x -> x.box(tag, height, depth));
    }

    int glue(int width, int stretch, int order, int shrink) {
        return change(x -> x.glue(width, stretch, order, shrink));
    }

    int kern(int width) {
        return change(x -> x.kern(width));
    }

    int penalty(int p) {
        return change(x -> x.penalty(p));
    }

    /** For one call that changes nothing. */
    PageMaker ask() {
        count();
        return maker;
    }

    private int change(ToIntFunction<PageMaker> call) {
        count();
        changes.add(call);
        return call.applyAsInt(maker);
    }

    private void count() {
        if (calls == MOST_CALLS) {
            maker = new PageMaker();
            for (ToIntFunction<PageMaker> change : changes) {
                change.applyAsInt(maker);
            }
            calls = changes.size();
        }
        calls++;
        if (calls > MOST_CALLS) {
            throw new IllegalStateException("a test makes more than 512 changing calls");
        }
    }
}
