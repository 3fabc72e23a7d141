/** Compares answers with those that are due, prints each that differs, and ends a test's program. */
final class Answers {
    private int compared = 0;
    private int wrong = 0;

    void due(String call, long got, long want) {
        compared++;
        if (got != want) {
            wrong++;
            System.out.println(call + " answered " + got + ", due is " + want);
        }
    }

    void holds(String claim, boolean isTrue) {
        due(claim, isTrue ? 1 : 0, 1);
    }

    /** The trace of the latest ask: these numbers, and NONE on both sides of them. */
    void dueTrace(String call, HireShed shed, int... want) {
        due(call + ", then trace(-1)", shed.trace(-1), HireShed.NONE);
        for (int i = 0; i < want.length; i++) {
            due(call + ", then trace(" + i + ")", shed.trace(i), want[i]);
        }
        due(call + ", then trace(" + want.length + ")", shed.trace(want.length), HireShed.NONE);
    }

    void end(String test) {
        System.out.println(test + ": " + compared + " answers compared, " + wrong + " wrong");
        if (wrong != 0 || compared == 0) {
            System.exit(1);
        }
    }
}
