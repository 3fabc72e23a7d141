import java.util.ArrayList;
import java.util.List;
import java.util.function.Supplier;
import java.util.function.ToLongFunction;

/** Compares answers with those that are due, prints each that differs, and ends a test's program. */
final class Answers {
    private static final int TRACE_LOOKED_AT = 9;

    private int compared = 0;
    private int wrong = 0;

    void due(String call, long got, long want) {
        compared++;
        if (got != want) {
            wrong++;
            System.out.println(call + " answered " + got + ", due is " + want);
        }
    }

    /** The shed's latest call answered got. */
    void due(String sentence, CountedShed shed, long got, long want) {
        due("'" + sentence + "': " + shed.latestCall(), got, want);
    }

    void holds(String claim, boolean isTrue) {
        due(claim, isTrue ? 1 : 0, 1);
    }

    /** The trace of the latest ask: these numbers, and NONE on both sides of them. */
    void dueTrace(String sentence, CountedShed shed, int... want) {
        String after = sentence + ", after " + shed.latestCall();
        due(after, shed, shed.trace(-1), HireShed.NONE);
        for (int i = 0; i < TRACE_LOOKED_AT; i++) {
            due(after, shed, shed.trace(i), i < want.length ? want[i] : HireShed.NONE);
        }
    }

    /** The call answers want, and the shed then shows what one shows that wasn't called. */
    void refused(String sentence, Supplier<CountedShed> state, long want, ToLongFunction<CountedShed> call) {
        CountedShed called = state.get();
        due(sentence, called, call.applyAsLong(called), want);
        String after = sentence + ", nothing changes by " + called.latestCall();
        CountedShed twin = state.get();
        same(after, shownTrace(called), shownTrace(twin));
        same(after, shownElse(called), shownElse(twin));
    }

    /** As refused, but THE TRACE is empty then. */
    void refusedWithEmptyTrace(
            String sentence, Supplier<CountedShed> state, long want, ToLongFunction<CountedShed> call) {
        CountedShed called = state.get();
        due(sentence, called, call.applyAsLong(called), want);
        String after = sentence + ", only THE TRACE changes by " + called.latestCall();
        dueTrace(after, called);
        same(after, shownElse(called), shownElse(state.get()));
    }

    private void same(String claim, List<String> got, List<String> want) {
        due(claim + ", rows shown", got.size(), want.size());
        for (int i = 0; i < Math.min(got.size(), want.size()); i++) {
            holds(claim + ", shown is " + got.get(i) + " and not " + want.get(i), got.get(i).equals(want.get(i)));
        }
    }

    private static List<String> shownTrace(CountedShed shed) {
        List<String> rows = new ArrayList<>();
        for (int i = -1; i < TRACE_LOOKED_AT; i++) {
            show(rows, shed, shed.trace(i));
        }
        return rows;
    }

    /** All that calls show but THE TRACE. The last ones change the shed, so they are last. */
    private static List<String> shownElse(CountedShed shed) {
        List<String> rows = new ArrayList<>();
        int tools = 0;
        for (int i = 0; i <= 5; i++) {
            int counted = shed.count(i);
            show(rows, shed, counted);
            tools += i <= 2 ? counted : 0;
            show(rows, shed, shed.account(i));
        }
        for (int tool = 0; tool < tools; tool++) {
            for (int what = 0; what <= 6; what++) {
                show(rows, shed, shed.told(tool, what));
            }
            show(rows, shed, shed.ask(tool, 0, 1));
            show(rows, shed, shed.ask(tool, 3, 0));
        }
        show(rows, shed, shed.tool(0, 1, 0));
        show(rows, shed, shed.day(1));
        return rows;
    }

    private static void show(List<String> rows, CountedShed shed, long answer) {
        rows.add(shed.latestCall() + " = " + answer);
    }

    void end(String test) {
        System.out.println(test + ": " + compared + " answers compared, " + wrong + " wrong");
        if (wrong != 0 || compared == 0) {
            System.exit(1);
        }
    }
}
