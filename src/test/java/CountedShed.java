/** A HireShed that tells its latest call, and stops a test that rests on a 513th call, whose answer is free. */
final class CountedShed {
    private static final int MOST_CALLS = 512;

    private final HireShed shed = new HireShed();
    private int calls = 0;
    private String latest = "new HireShed()";

    String latestCall() {
        return latest;
    }

    int tool(int kind, int rate, int value) {
        return next("tool", kind, rate, value).tool(kind, rate, value);
    }

    int ask(int tool, int what, int d) {
        return next("ask", tool, what, d).ask(tool, what, d);
    }

    int trace(int i) {
        return next("trace", i).trace(i);
    }

    int hire(int tool, int customer) {
        return next("hire", tool, customer).hire(tool, customer);
    }

    int back(int tool) {
        return next("back", tool).back(tool);
    }

    int service(int tool) {
        return next("service", tool).service(tool);
    }

    int day(int n) {
        return next("day", n).day(n);
    }

    long account(int customer) {
        return next("account", customer).account(customer);
    }

    int told(int tool, int what) {
        return next("told", tool, what).told(tool, what);
    }

    int count(int what) {
        return next("count", what).count(what);
    }

    private HireShed next(String name, int... numbers) {
        calls++;
        StringBuilder text = new StringBuilder(name);
        for (int i = 0; i < numbers.length; i++) {
            text.append(i == 0 ? "(" : ", ").append(numbers[i]);
        }
        latest = text.append(")").toString();
        if (calls > MOST_CALLS) {
            throw new IllegalStateException("call " + calls + " of one object, " + latest + ": its answer is free");
        }
        return shed;
    }
}
