import java.util.function.Supplier;
import java.util.function.ToLongFunction;

/** The sentences of promises 1 to 11 that name a boundary: a test for each, on both sides of it. */
public final class CallEdgesTest {
    private static final int NONE = HireShed.NONE, BAD = HireShed.BAD, NO = HireShed.NO, FULL = HireShed.FULL;
    private static final int CHARGE = 0, CHECK = 2, DEPOSIT = 3, PREMIUM = 4, DUE = 5;
    private static final Answers A = new Answers();

    /** A call that names a tool. */
    private interface ToolCall {
        long of(CountedShed shed, int tool);
    }

    public static void main(String[] args) {
        shedsAreAsTold();
        promise1NoTools();
        promise1NothingIsShared();
        promise2RefusedOnesTakeNoNumber();
        promise3Tools();
        promise3Whats();
        promise3Days();
        promise3None();
        promise3TraceIsEmptyAhead();
        promise3ChangesNothingElse();
        promise4Numbers();
        promise4LatestAskThatWasNotBad();
        promise5Tools();
        promise5Customers();
        promise5NotIn();
        promise6Tools();
        promise6NotOut();
        promise7Tools();
        promise7Out();
        promises5To7LeaveTheTrace();
        promises5To7LeaveNoTraceAheadOfTheFirstAsk();
        promise8Days();
        promise8NotAbove20000();
        promise9Customers();
        promise9LargestAccount();
        promise10Tools();
        promise10Whats();
        promise10NotOut();
        promise10InsuredAndServiced();
        promise11Whats();
        promise11Counts();
        promises4And9To11OnlyShow();
        A.end("CallEdgesTest");
    }

    /** The other tests lean on what Sheds says of its sheds. */
    private static void shedsAreAsTold() {
        CountedShed busy = Sheds.busy();
        int[] counts = {7, 7, 7, 115, 100, 28};
        for (int what = 0; what <= 5; what++) {
            A.due("busy()", busy, busy.count(what), counts[what]);
        }
        for (int tool = 0; tool < Sheds.BUSY_TOOLS; tool++) {
            A.due("busy()", busy, busy.told(tool, 0), tool / 3);
            A.due("busy()", busy, busy.told(tool, 2), tool % 3);
            A.holds("busy(): HOURS of " + tool + " are not 0", busy.told(tool, 1) != 0);
        }
        for (int customer = 0; customer <= 5; customer++) {
            A.holds("busy(): account " + customer + " is not 0", busy.account(customer) != 0);
        }
        A.dueTrace("busy()", busy, Sheds.LONGEST_TRACE);
        CountedShed full = Sheds.full();
        A.due("full()", full, full.count(0), 10);
        CountedShed late = Sheds.onDay(20000);
        A.due("onDay(20000)", late, late.count(3), 20000);
        A.due("onDay(20000)", late, late.count(1), 1);
    }

    private static void promise1NoTools() {
        String s = "1: No TOOLS";
        CountedShed shed = new CountedShed();
        for (int what = 0; what <= 5; what++) {
            A.due(s, shed, shed.count(what), 0);
            A.due(s, shed, shed.account(what), 0);
            A.due(s, shed, shed.ask(0, what, 0), BAD);
        }
        A.dueTrace(s, shed);
        A.due(s, shed, shed.tool(0, 1, 0), 0);
    }

    private static void promise1NothingIsShared() {
        CountedShed first = Sheds.busy();
        CountedShed second = new CountedShed();
        second.tool(0, 1, 0);
        second.ask(0, CHARGE, 1);
        A.due("1: No TOOLS", second, second.count(0), 1);
        A.due("1: No TOOLS", second, second.count(3), 0);
        A.due("1: No TOOLS", second, second.account(0), 0);
        A.dueTrace("1: another object's ask", first, Sheds.LONGEST_TRACE);
        A.due("1: another object's tool", first, first.count(0), 7);
    }

    private static void promise2RefusedOnesTakeNoNumber() {
        String s = "2: A TOOL: its number";
        CountedShed shed = new CountedShed();
        for (int number = 0; number < 24; number++) {
            A.due(s, shed, shed.tool(7, 1, 0), BAD);
            A.due(s, shed, shed.tool(0, 1001, 0), BAD);
            A.due(s, shed, shed.tool(0, 1, 100001), BAD);
            A.due(s, shed, shed.told(number, 0), BAD);
            A.due(s, shed, shed.tool(number % 7, 1, 0), number);
            A.due(s, shed, shed.told(number, 0), number % 7);
        }
        for (int again = 0; again < 3; again++) {
            A.due(s, shed, shed.tool(0, 1, 0), FULL);
        }
        A.due(s, shed, shed.count(0), 24);
    }

    /** Refused for every number that is no tool's, in sheds with none, one, some and all tools; else not BAD. */
    private static void onlyTools(String sentence, ToolCall call) {
        refusedBeyond(sentence, CountedShed::new, 0, call);
        refusedBeyond(sentence, () -> Sheds.oneTool(3, 10, 2000), 1, call);
        refusedBeyond(sentence, Sheds::busy, Sheds.BUSY_TOOLS, call);
        refusedBeyond(sentence, Sheds::full, Sheds.FULL_TOOLS, call);
    }

    private static void refusedBeyond(String sentence, Supplier<CountedShed> state, int tools, ToolCall call) {
        for (int tool : Range.refused(0, tools - 1)) {
            A.refused(sentence, state, BAD, x -> call.of(x, tool));
        }
        for (int tool = tools; tool <= Sheds.FULL_TOOLS; tool++) {
            int none = tool;
            A.refused(sentence, state, BAD, x -> call.of(x, none));
        }
        for (int tool = 0; tool < tools; tool++) {
            CountedShed shed = state.get();
            long answer = call.of(shed, tool);
            A.holds(sentence + ": " + shed.latestCall() + " is not BAD", answer != BAD);
        }
    }

    private static void promise3Tools() {
        for (int what = CHARGE; what <= DUE; what++) {
            int asked = what;
            onlyTools("3: no such TOOL", (x, tool) -> x.ask(tool, asked, 1));
        }
    }

    private static void promise3Whats() {
        String s = "3: 0 CHARGE .. 5 DUE";
        int tree = Sheds.number(4, Sheds.IN);
        for (int what : Range.refused(0, 5)) {
            A.refused(s, Sheds::busy, BAD, x -> x.ask(tree, what, 1));
            A.refused(s, Sheds::busy, BAD, x -> x.ask(0, what, 1));
        }
        CountedShed shed = Sheds.oneTool(4, 10, 2000);
        int[] want = {26, 1, 3, 1500, 10, 0};
        for (int what = 0; what <= 5; what++) {
            A.due(s, shed, shed.ask(0, what, 1), want[what]);
        }
    }

    private static void promise3Days() {
        String s = "3: of d days (0 .. 400, also of 2 and 3, which do not look at them)";
        int tree = Sheds.number(4, Sheds.IN);
        int[] of0Days = {0, 0, 3, 1500, 0, 0}, of400Days = {8435, 400, 3, 1500, 4000, 1};
        CountedShed shed = Sheds.oneTool(4, 10, 2000);
        for (int what = CHARGE; what <= DUE; what++) {
            int asked = what;
            A.due(s, shed, shed.ask(0, what, 0), of0Days[what]);
            A.due(s, shed, shed.ask(0, what, 400), of400Days[what]);
            for (int d : Range.refused(0, 400)) {
                A.refused(s, Sheds::busy, BAD, x -> x.ask(tree, asked, d));
                A.refused(s, Sheds::busy, BAD, x -> x.ask(0, asked, d));
            }
        }
    }

    private static void promise3None() {
        String s = "3: NO: 3 to 5 of one that has none such";
        boolean[][] has = {
            {false, true, true, true, true, true, true},
            {false, false, true, true, true, false, false},
            {false, false, false, true, true, true, true},
        };
        for (int tool = 0; tool < Sheds.BUSY_TOOLS; tool++) {
            int asked = tool;
            for (int what = DEPOSIT; what <= DUE; what++) {
                int about = what;
                if (has[what - DEPOSIT][tool / 3]) {
                    CountedShed shed = Sheds.busy();
                    A.holds(s + ", but " + tool + " has " + what, shed.ask(tool, what, 1) >= 0);
                } else {
                    A.refusedWithEmptyTrace(s, Sheds::busy, NO, x -> x.ask(asked, about, 0));
                    A.refusedWithEmptyTrace(s, Sheds::busy, NO, x -> x.ask(asked, about, 400));
                }
            }
        }
    }

    private static void promise3TraceIsEmptyAhead() {
        String s = "3: THE TRACE is empty ahead of it, if it is not BAD";
        CountedShed shed = Sheds.oneOfEach(10, 2000);
        shed.ask(4, PREMIUM, 1);
        A.dueTrace(s, shed, Sheds.LONGEST_TRACE);
        shed.ask(0, CHARGE, 1);
        A.dueTrace(s, shed, 1);
        shed.ask(0, DEPOSIT, 1);
        A.dueTrace(s, shed);
        shed.ask(0, CHARGE, 401);
        A.dueTrace(s, shed);
        shed.ask(4, PREMIUM, 1);
        shed.ask(4, PREMIUM, 1);
        A.dueTrace(s, shed, Sheds.LONGEST_TRACE);
        shed.ask(4, PREMIUM, 401);
        A.dueTrace(s, shed, Sheds.LONGEST_TRACE);
        shed.ask(7, CHARGE, 1);
        A.dueTrace(s, shed, Sheds.LONGEST_TRACE);
        shed.ask(4, 6, 1);
        A.dueTrace(s, shed, Sheds.LONGEST_TRACE);
    }

    /** The longest trace is there already, so that nothing at all may change. */
    private static void promise3ChangesNothingElse() {
        int tree = Sheds.number(4, Sheds.IN);
        CountedShed shed = Sheds.busy();
        int premium = shed.ask(tree, PREMIUM, 400);
        A.refused("3: What a TOOL answers", Sheds::busy, premium, x -> x.ask(tree, PREMIUM, 400));
    }

    private static void promise4Numbers() {
        String s = "4: Number i of THE TRACE; NONE";
        int[][] asked = {{0, DEPOSIT}, {0, CHARGE}, {2, CHARGE}, {4, CHARGE}, {3, PREMIUM}, {4, PREMIUM}};
        int[][] want = {{}, {1}, {2, 1}, {3, 2, 1}, {42, 22, 21, 20, 31}, Sheds.LONGEST_TRACE};
        for (int row = 0; row < asked.length; row++) {
            CountedShed shed = Sheds.oneOfEach(10, 2000);
            shed.ask(asked[row][0], asked[row][1], 1);
            A.dueTrace(s, shed, want[row]);
            for (int i : Range.refused(0, want[row].length - 1)) {
                A.due(s, shed, shed.trace(i), NONE);
            }
        }
    }

    private static void promise4LatestAskThatWasNotBad() {
        String s = "4: of the latest ask() that was not BAD";
        CountedShed shed = new CountedShed();
        A.dueTrace(s, shed);
        shed.ask(0, CHARGE, 1);
        A.dueTrace(s, shed);
        shed.tool(2, 10, 2000);
        A.dueTrace(s, shed);
        shed.ask(0, CHECK, 1);
        shed.ask(0, CHARGE, -1);
        A.dueTrace(s, shed, 21, 20);
        shed.ask(0, DUE, 1);
        shed.ask(0, -1, 1);
        A.dueTrace(s, shed);
    }

    private static void promise5Tools() {
        onlyTools("5: no such TOOL", (x, tool) -> x.hire(tool, 0));
    }

    private static void promise5Customers() {
        String s = "5: CUSTOMERS 0 .. 5";
        for (int customer : Range.allowed(0, 5)) {
            CountedShed shed = Sheds.oneTool(1, 10, 2000);
            A.due(s, shed, shed.hire(0, customer), 1000);
            A.due(s, shed, shed.told(0, 3), customer);
            A.due(s, shed, shed.account(customer), -1000);
        }
        for (int customer : Range.refused(0, 5)) {
            for (int how = 0; how <= 2; how++) {
                int tool = Sheds.number(4, how);
                A.refused(s, Sheds::busy, BAD, x -> x.hire(tool, customer));
            }
            A.refused(s, Sheds::busy, BAD, x -> x.hire(Sheds.BUSY_TOOLS, customer));
        }
    }

    private static void promise5NotIn() {
        String s = "5: NO: it is not IN, or DUE in 1 day";
        for (int kind = 0; kind <= 6; kind++) {
            for (int how : new int[] {Sheds.OUT, Sheds.BROKEN}) {
                int tool = Sheds.number(kind, how);
                A.refused(s, Sheds::busy, NO, x -> x.hire(tool, 1));
            }
        }
        A.refused(s, () -> Sheds.usedFor(60, 3, 10, 2000), NO, x -> x.hire(0, 1));
        A.refused(s, () -> traced(Sheds.usedFor(60, 3, 10, 2000)), NO, x -> x.hire(0, 1));
    }

    private static CountedShed traced(CountedShed shed) {
        shed.ask(0, CHARGE, 1);
        return shed;
    }

    private static void promise6Tools() {
        onlyTools("6: no such TOOL", (x, tool) -> x.back(tool));
    }

    private static void promise6NotOut() {
        String s = "6: NO: it is not OUT";
        for (int kind = 0; kind <= 6; kind++) {
            int out = Sheds.number(kind, Sheds.OUT);
            for (int how : new int[] {Sheds.IN, Sheds.BROKEN}) {
                int tool = Sheds.number(kind, how);
                A.refused(s, Sheds::busy, NO, x -> x.back(tool));
            }
            CountedShed shed = Sheds.busy();
            A.holds(s + ", but " + out + " is OUT", shed.back(out) > 0);
            A.due(s, shed, shed.back(out), NO);
        }
    }

    private static void promise7Tools() {
        onlyTools("7: no such TOOL", (x, tool) -> x.service(tool));
    }

    private static void promise7Out() {
        String s = "7: NO: it is OUT";
        A.refused(s, () -> Sheds.outFor(0, 4, 10, 2000), NO, x -> x.service(0));
        A.refused(s, () -> Sheds.outFor(200, 4, 10, 2000), NO, x -> x.service(0));
        CountedShed shed = Sheds.usedFor(60, 3, 10, 2000);
        A.due(s, shed, shed.service(0), 100 + 50 * 9);
        A.due(s, shed, shed.hire(0, 1), 1000);
        A.due(s, shed, shed.service(0), NO);
        shed.back(0);
        A.due(s, shed, shed.service(0), 250);
    }

    /** Ahead of each call THE TRACE is the longest, or short, or empty; the call itself is answered. */
    private static void promises5To7LeaveTheTrace() {
        for (int kind = 0; kind <= 6; kind++) {
            int in = Sheds.number(kind, Sheds.IN), out = Sheds.number(kind, Sheds.OUT);
            int broken = Sheds.number(kind, Sheds.BROKEN);
            leavesTheTrace(x -> x.hire(in, 0));
            leavesTheTrace(x -> x.back(out));
            leavesTheTrace(x -> x.service(in));
            leavesTheTrace(x -> x.service(broken));
        }
    }

    private static void promises5To7LeaveNoTraceAheadOfTheFirstAsk() {
        String s = "5 to 7: THE TRACE is as it was, there has been no ask()";
        for (int kind = 0; kind <= 6; kind++) {
            CountedShed shed = Sheds.oneTool(kind, 10, 2000);
            A.holds(s + ", call is answered", shed.hire(0, 0) >= 0);
            A.dueTrace(s, shed);
            A.holds(s + ", call is answered", shed.back(0) >= 0);
            A.dueTrace(s, shed);
            A.holds(s + ", call is answered", shed.service(0) >= 0);
            A.dueTrace(s, shed);
        }
    }

    private static void leavesTheTrace(ToLongFunction<CountedShed> call) {
        String s = "5 to 7: THE TRACE is as it was";
        CountedShed longest = Sheds.busy();
        A.holds(s + ", call is answered", call.applyAsLong(longest) >= 0);
        A.dueTrace(s, longest, Sheds.LONGEST_TRACE);
        CountedShed one = Sheds.busy();
        one.ask(0, CHARGE, 1);
        call.applyAsLong(one);
        A.dueTrace(s, one, 1);
        CountedShed empty = Sheds.busy();
        empty.ask(0, DEPOSIT, 1);
        call.applyAsLong(empty);
        A.dueTrace(s, empty);
    }

    private static void promise8Days() {
        String s = "8: n (1 .. 50) days go";
        for (int n : Range.allowed(1, 50)) {
            CountedShed shed = new CountedShed();
            A.due(s, shed, shed.day(n), n);
            A.due(s, shed, shed.day(n), 2 * n);
            A.due(s, shed, shed.count(3), 2 * n);
        }
        for (int n : Range.refused(1, 50)) {
            A.refused(s, CountedShed::new, BAD, x -> x.day(n));
            A.refused(s, Sheds::busy, BAD, x -> x.day(n));
            A.refused(s, () -> Sheds.onDay(20000), BAD, x -> x.day(n));
        }
    }

    private static void promise8NotAbove20000() {
        String s = "8: FULL: it would be above 20000";
        for (int n : Range.allowed(1, 50)) {
            CountedShed last = Sheds.onDay(20000 - n);
            A.due(s, last, last.day(n), 20000);
            A.due(s, last, last.count(3), 20000);
            A.due(s, last, last.day(1), FULL);
            A.refused(s, () -> Sheds.onDay(20001 - n), FULL, x -> x.day(n));
            A.refused(s, () -> Sheds.onDay(20000), FULL, x -> x.day(n));
        }
        CountedShed shed = Sheds.onDay(19951);
        A.due(s, shed, shed.day(50), FULL);
        A.due(s, shed, shed.day(49), 20000);
        A.due(s, shed, shed.back(1), 20 * 20000 + 30);
    }

    private static void promise9Customers() {
        String s = "9: An ACCOUNT. 0: BAD";
        CountedShed shed = Sheds.oneTool(0, 7, 2000);
        for (int customer = 0; customer <= 5; customer++) {
            shed.hire(0, customer);
            shed.day(customer + 1);
            shed.back(0);
        }
        for (int customer = 0; customer <= 5; customer++) {
            A.due(s, shed, shed.account(customer), -7 * (customer + 1));
        }
        for (int customer : Range.refused(0, 5)) {
            A.due(s, shed, shed.account(customer), 0);
            A.refused(s, Sheds::busy, 0, x -> x.account(customer));
        }
    }

    /** Nearly as far below 0 as 512 calls can bring one: the dearest tools, all with one customer, to the last day. */
    private static void promise9LargestAccount() {
        String s = "9: An ACCOUNT";
        CountedShed shed = new CountedShed();
        for (int tool = 0; tool < Sheds.FULL_TOOLS; tool++) {
            shed.tool(4, 1000, 100000);
            shed.hire(tool, 5);
        }
        A.due(s, shed, shed.account(5), -24L * 50500);
        Sheds.pass(shed, 20000);
        for (int tool = 0; tool < Sheds.FULL_TOOLS; tool++) {
            A.due(s, shed, shed.back(tool), 45120035);
        }
        A.due(s, shed, shed.account(5), -24L * 45120035);
    }

    private static void promise10Tools() {
        for (int what = 0; what <= 6; what++) {
            int asked = what;
            onlyTools("10: no such TOOL", (x, tool) -> x.told(tool, asked));
        }
    }

    private static void promise10Whats() {
        String s = "10: 0 KIND .. 6 SERVICED";
        CountedShed shed = Sheds.oneTool(6, 10, 2000);
        shed.day(9);
        shed.hire(0, 5);
        int[] want = {6, 0, 1, 5, 9, 0, 1};
        for (int what = 0; what <= 6; what++) {
            A.due(s, shed, shed.told(0, what), want[what]);
        }
        for (int what : Range.refused(0, 6)) {
            A.refused(s, Sheds::busy, BAD, x -> x.told(0, what));
            A.refused(s, Sheds::full, BAD, x -> x.told(23, what));
            A.refused(s, Sheds::busy, BAD, x -> x.told(Sheds.BUSY_TOOLS, what));
        }
    }

    private static void promise10NotOut() {
        String s = "10: 3 the CUSTOMER (NONE: not OUT), 4 since when it is OUT (NONE)";
        CountedShed shed = Sheds.busy();
        for (int kind = 0; kind <= 6; kind++) {
            for (int how : new int[] {Sheds.IN, Sheds.BROKEN}) {
                A.due(s, shed, shed.told(Sheds.number(kind, how), 3), NONE);
                A.due(s, shed, shed.told(Sheds.number(kind, how), 4), NONE);
            }
            A.due(s, shed, shed.told(Sheds.number(kind, Sheds.OUT), 3), (kind + 1) % 6);
            A.due(s, shed, shed.told(Sheds.number(kind, Sheds.OUT), 4), 112);
        }
        CountedShed first = Sheds.outFor(0, 0, 10, 2000);
        A.due(s, first, first.told(0, 3), 0);
        A.due(s, first, first.told(0, 4), 0);
        CountedShed last = Sheds.onDay(20000);
        last.hire(0, 5);
        A.due(s, last, last.told(0, 4), 20000);
        last.back(0);
        A.due(s, last, last.told(0, 4), NONE);
    }

    private static void promise10InsuredAndServiced() {
        int[] insured = {0, 0, 1, 1, 1, 0, 0}, serviced = {0, 0, 0, 1, 1, 1, 1};
        CountedShed shed = Sheds.busy();
        for (int tool = 0; tool < Sheds.BUSY_TOOLS; tool++) {
            A.due("10: 5 whether it is INSURED (1, 0)", shed, shed.told(tool, 5), insured[tool / 3]);
            A.due("10: 6 SERVICED", shed, shed.told(tool, 6), serviced[tool / 3]);
        }
    }

    private static void promise11Whats() {
        String s = "11: IN (0) .. 5 how often one was HIRED";
        for (int what : Range.refused(0, 5)) {
            A.refused(s, CountedShed::new, BAD, x -> x.count(what));
            A.refused(s, Sheds::busy, BAD, x -> x.count(what));
        }
    }

    private static void promise11Counts() {
        CountedShed shed = Sheds.usedFor(60, 3, 10, 2000);
        shed.tool(0, 10, 2000);
        dueCounts("11: one is DUE, one fresh", shed, 2, 0, 0, 60, 0, 1);
        shed.hire(0, 0);
        shed.hire(1, 6);
        shed.hire(2, 0);
        dueCounts("11: refused ones were not HIRED", shed, 2, 0, 0, 60, 0, 1);
        shed.hire(1, 0);
        shed.hire(1, 0);
        shed.service(1);
        shed.service(2);
        dueCounts("11: refused ones cost nothing", shed, 1, 1, 0, 60, 0, 2);
        Sheds.pass(shed, 100);
        shed.back(1);
        dueCounts("11: one is BROKEN", shed, 1, 0, 1, 160, 0, 2);
        shed.service(0);
        shed.service(1);
        dueCounts("11: COSTS of all SERVICES", shed, 2, 0, 0, 160, 550 + 600, 2);
    }

    private static void dueCounts(String sentence, CountedShed shed, int... want) {
        for (int what = 0; what < want.length; what++) {
            A.due(sentence, shed, shed.count(what), want[what]);
        }
    }

    private static void promises4And9To11OnlyShow() {
        String s = "4, 9, 10, 11: the call only shows";
        A.refused(s, Sheds::busy, 31, x -> x.trace(5));
        A.refused(s, Sheds::busy, NONE, x -> x.trace(6));
        A.refused(s, Sheds::busy, 7, x -> x.count(1));
        A.refused(s, Sheds::busy, 4, x -> x.told(Sheds.number(4, Sheds.OUT), 0));
        long account = Sheds.busy().account(5);
        A.refused(s, Sheds::busy, account, x -> x.account(5));
    }
}
