import java.util.List;
import java.util.function.Predicate;
import java.util.function.Supplier;
import java.util.function.ToIntFunction;

/**
 * A refused call answers NONE or false, and nothing happens: a board that was asked so is, now and
 * later, like one that was not.
 */
final class Refused {
    private Refused() {
    }

    static void none(String call, Supplier<SpanBoard> scene, ToIntFunction<SpanBoard> asked) {
        leavesNoTrace(call, SpanBoard.NONE, scene, asked);
    }

    static void no(String call, Supplier<SpanBoard> scene, Predicate<SpanBoard> asked) {
        leavesNoTrace(call, 0, scene, x -> asked.test(x) ? 1 : 0);
    }

    static void zero(String call, Supplier<SpanBoard> scene, ToIntFunction<SpanBoard> asked) {
        leavesNoTrace(call, 0, scene, asked);
    }

    private static void leavesNoTrace(String call, int due, Supplier<SpanBoard> scene,
            ToIntFunction<SpanBoard> asked) {
        SpanBoard first = scene.get();
        Check.due(call, asked.applyAsInt(first), due);
        compare(call + ", then ", Trace.now(first), Trace.now(scene.get()));
        SpanBoard second = scene.get();
        asked.applyAsInt(second);
        compare(call + ", later ", Trace.later(second), Trace.later(scene.get()));
        SpanBoard third = scene.get();
        asked.applyAsInt(third);
        compare(call + ", the post lost, later ", Trace.laterWithoutPost(third),
            Trace.laterWithoutPost(scene.get()));
    }

    private static void compare(String after, List<String> got, List<String> want) {
        for (int n = 0; n < Math.min(got.size(), want.size()); n++) {
            if (!got.get(n).equals(want.get(n))) {
                Check.yes(after + got.get(n) + " where " + want.get(n) + " is due", false);
                return;
            }
        }
        Check.due(after + "the number of answers", got.size(), want.size());
    }
}
