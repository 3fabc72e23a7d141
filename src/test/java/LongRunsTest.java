/** Many runs of 512 mixed calls, each answer compared with that of the model; every run is always the same. */
public final class LongRunsTest {
    private static final int RUNS = 2000, CALLS = 512;
    private static final int[] WRONG = {-1, -2, 6, 7, 24, 51, 401, 1001, 100001, Integer.MIN_VALUE, Integer.MAX_VALUE};
    private static final Answers A = new Answers();

    private final HireShed shed = new HireShed();
    private final ShedModel model = new ShedModel();
    private final int run;
    private long state;

    private LongRunsTest(int run) {
        this.run = run;
        this.state = 1 + run;
    }

    public static void main(String[] args) {
        for (int run = 0; run < RUNS; run++) {
            LongRunsTest test = new LongRunsTest(run);
            for (int call = 0; call < CALLS; call++) {
                test.step(call);
            }
        }
        A.end("LongRunsTest");
    }

    /** The next of a fixed row of numbers, 0 .. bound - 1. */
    private int next(int bound) {
        state = state * 6364136223846793005L + 1442695040888963407L;
        return (int) ((state >>> 33) % bound);
    }

    /** Mostly least .. most; now and then a number that is wrong in most places. */
    private int pick(int least, int most) {
        return next(25) == 0 ? WRONG[next(WRONG.length)] : least + next(most - least + 1);
    }

    private int anyTool() {
        return pick(0, run % 3 == 0 ? 23 : 3);
    }

    private void step(int call) {
        int which = call < 6 ? 0 : next(22);
        switch (which) {
            case 0: stepTool(call); break;
            case 1: case 2: case 3: stepAsk(call); break;
            case 4: case 5: case 6: stepTrace(call); break;
            case 7: case 8: case 9: stepHire(call); break;
            case 10: case 11: case 12: stepBack(call); break;
            case 13: stepService(call); break;
            case 14: case 15: stepDay(call); break;
            case 16: case 17: stepAccount(call); break;
            case 18: case 19: case 20: stepTold(call); break;
            default: stepCount(call); break;
        }
    }

    private String at(int call, String text) {
        return "run " + run + ", call " + call + ": " + text;
    }

    private void stepTool(int call) {
        int k = pick(0, 6), r = pick(1, 1000), v = pick(0, 100000);
        A.due(at(call, "tool(" + k + ", " + r + ", " + v + ")"), shed.tool(k, r, v), model.tool(k, r, v));
    }

    private void stepAsk(int call) {
        int t = anyTool(), w = pick(0, 5), d = pick(0, next(2) == 0 ? 400 : 30);
        A.due(at(call, "ask(" + t + ", " + w + ", " + d + ")"), shed.ask(t, w, d), model.ask(t, w, d));
    }

    private void stepTrace(int call) {
        int i = pick(0, 6);
        A.due(at(call, "trace(" + i + ")"), shed.trace(i), model.trace(i));
    }

    private void stepHire(int call) {
        int t = anyTool(), c = pick(0, 5);
        A.due(at(call, "hire(" + t + ", " + c + ")"), shed.hire(t, c), model.hire(t, c));
    }

    private void stepBack(int call) {
        int t = anyTool();
        A.due(at(call, "back(" + t + ")"), shed.back(t), model.back(t));
    }

    private void stepService(int call) {
        int t = anyTool();
        A.due(at(call, "service(" + t + ")"), shed.service(t), model.service(t));
    }

    private void stepDay(int call) {
        int n = pick(1, run % 2 == 0 ? 50 : 5);
        A.due(at(call, "day(" + n + ")"), shed.day(n), model.day(n));
    }

    private void stepAccount(int call) {
        int c = pick(0, 5);
        A.due(at(call, "account(" + c + ")"), shed.account(c), model.account(c));
    }

    private void stepTold(int call) {
        int t = anyTool(), w = pick(0, 6);
        A.due(at(call, "told(" + t + ", " + w + ")"), shed.told(t, w), model.told(t, w));
    }

    private void stepCount(int call) {
        int w = pick(0, 5);
        A.due(at(call, "count(" + w + ")"), shed.count(w), model.count(w));
    }
}
