/**
 * No call throws or fails to end, for any numbers and on any object, also after its 512th call. What the calls answer
 * there is free, so no answer is compared: a call that throws ends the test.
 */
public final class AnyCallTest {
    private static final Answers A = new Answers();
    private static final int MIN = Integer.MIN_VALUE, MAX = Integer.MAX_VALUE;
    private static final int[] NUMBERS = {
        MIN, MIN + 1, -24, -4, -3, -2, -1, 0, 1, 2, 3, 4, 5, 6, 7, 8, 9, 22, 23, 24, 50, 51, 400, 401, 1000, 1001,
        20000, 20001, 100000, 100001, MAX - 1, MAX,
    };

    private final HireShed shed = new HireShed();
    private int calls = 0;

    public static void main(String[] args) {
        AnyCallTest empty = new AnyCallTest(), full = new AnyCallTest();
        for (int i = 0; i < Sheds.FULL_TOOLS; i++) {
            full.shed.tool(i % Sheds.KINDS, 1000, 100000);
        }
        for (int again = 0; again < 3; again++) {
            empty.everyCall();
            full.everyCall();
        }
        A.holds("there were calls after the 512th", empty.calls > 512 && full.calls > 512);
        A.end("AnyCallTest, " + full.calls + " calls of an object");
    }

    private void everyCall() {
        for (int first : NUMBERS) {
            for (int second : NUMBERS) {
                withOne(second);
                withTwo(first, second);
                for (int third : NUMBERS) {
                    withThree(first, second, third);
                }
            }
        }
    }

    private void withOne(int first) {
        shed.trace(first);
        shed.back(first);
        shed.service(first);
        shed.day(first);
        shed.account(first);
        shed.count(first);
        calls += 6;
    }

    private void withTwo(int first, int second) {
        shed.hire(first, second);
        shed.told(first, second);
        calls += 2;
    }

    private void withThree(int first, int second, int third) {
        shed.tool(first, second, third);
        shed.ask(first, second, third);
        calls += 2;
    }
}
