/** The document's promises one by one: ordinary inputs, the edges that it names, wrong inputs. */
public final class PromisesTest {
    private static final int NONE = HireShed.NONE, BAD = HireShed.BAD, NO = HireShed.NO, FULL = HireShed.FULL;
    private static final int MIN = Integer.MIN_VALUE, MAX = Integer.MAX_VALUE;
    private static final Answers A = new Answers();

    public static void main(String[] args) {
        promise1NewObject();
        promise2Tool();
        promise2ToolWrongAndFull();
        promise3AskFresh();
        promise3AskUsed();
        promise3AskWrong();
        promise4Trace();
        promise4TraceKept();
        promise5Hire();
        promise5HireWrong();
        promise5HireDue();
        promise6Back();
        promise6BackPremium();
        promise6BackBreaks();
        promise7Service();
        promise8Day();
        promise9Account();
        promise10Told();
        promise11Count();
        A.end("PromisesTest");
    }

    /** One tool of every kind, its number being its kind. */
    private static HireShed oneOfEach(int rate, int value) {
        HireShed shed = new HireShed();
        for (int kind = 0; kind <= 6; kind++) {
            A.due("tool(" + kind + ", ..)", shed.tool(kind, rate, value), kind);
        }
        return shed;
    }

    /** A shed whose tool 0 has been out for so many days, once. */
    private static HireShed usedFor(int days, int kind, int rate, int value) {
        HireShed shed = new HireShed();
        shed.tool(kind, rate, value);
        shed.hire(0, 0);
        pass(shed, days);
        shed.back(0);
        return shed;
    }

    private static void pass(HireShed shed, int days) {
        for (int left = days; left > 0; left -= 50) {
            shed.day(Math.min(50, left));
        }
    }

    private static void dueRow(String call, HireShed shed, int what, int d, int... want) {
        for (int kind = 0; kind < want.length; kind++) {
            A.due(call + " of kind " + kind, shed.ask(kind, what, d), want[kind]);
        }
    }

    private static void promise1NewObject() {
        HireShed shed = new HireShed();
        for (int what = 0; what <= 5; what++) {
            A.due("1: count(" + what + ")", shed.count(what), 0);
            A.due("1: ask(0, " + what + ", 1)", shed.ask(0, what, 1), BAD);
        }
        for (int customer = 0; customer <= 5; customer++) {
            A.due("1: account(" + customer + ")", shed.account(customer), 0);
        }
        A.due("1: told(0, 0)", shed.told(0, 0), BAD);
        A.due("1: hire(0, 0)", shed.hire(0, 0), BAD);
        A.due("1: back(0)", shed.back(0), BAD);
        A.due("1: service(0)", shed.service(0), BAD);
        A.dueTrace("1: new", shed);
        HireShed other = new HireShed();
        shed.tool(0, 1, 0);
        shed.day(3);
        A.due("1: another object's tools", other.count(0), 0);
        A.due("1: another object's day", other.count(3), 0);
    }

    private static void promise2Tool() {
        HireShed shed = oneOfEach(7, 1234);
        A.due("2: least rate and value", shed.tool(0, 1, 0), 7);
        A.due("2: most rate and value", shed.tool(6, 1000, 100000), 8);
        A.due("2: least rate is kept", shed.ask(7, 0, 400), 400);
        A.due("2: most rate and value are kept", shed.ask(8, 0, 400), 401000);
        A.due("2: most value is kept", shed.ask(8, 3, 0), 50000);
        A.due("2: all are in", shed.count(0), 9);
    }

    private static void promise2ToolWrongAndFull() {
        HireShed shed = new HireShed();
        int[][] wrong = {
            {-1, 1, 1}, {7, 1, 1}, {MIN, 1, 1}, {MAX, 1, 1},
            {0, 0, 1}, {0, 1001, 1}, {0, -1, 1}, {0, MIN, 1}, {0, MAX, 1},
            {0, 1, -1}, {0, 1, 100001}, {0, 1, MIN}, {0, 1, MAX},
        };
        dueAllBad(shed, wrong);
        A.due("2: a wrong one is not kept", shed.count(0), 0);
        for (int i = 0; i < 24; i++) {
            A.due("2: tool number " + i, shed.tool(i % 7, 1 + i, i), i);
        }
        A.due("2: a 25th", shed.tool(0, 1, 1), FULL);
        A.due("2: a 25th of the last kind", shed.tool(6, 1000, 100000), FULL);
        dueAllBad(shed, wrong);
        A.due("2: 24 are kept", shed.count(0), 24);
        A.due("2: the last one is there", shed.told(23, 0), 23 % 7);
        A.due("2: none behind it", shed.told(24, 0), BAD);
    }

    private static void dueAllBad(HireShed shed, int[][] wrong) {
        for (int[] w : wrong) {
            A.due("2: tool(" + w[0] + ", " + w[1] + ", " + w[2] + ")", shed.tool(w[0], w[1], w[2]), BAD);
        }
    }

    private static void promise3AskFresh() {
        HireShed shed = oneOfEach(11, 1999);
        dueRow("3: CHARGE 0", shed, 0, 0, 0, 0, 0, 0, 0, 0, 19);
        dueRow("3: CHARGE 7", shed, 0, 7, 77, 77, 98, 98, 196, 77, 96);
        dueRow("3: CHARGE 8", shed, 0, 8, 88, 88, 112, 112, 219, 88, 107);
        dueRow("3: CHARGE 400", shed, 0, 400, 4400, 4400, 5600, 5600, 9235, 4400, 4419);
        dueRow("3: WEAR 0", shed, 1, 0, 0, 0, 0, 0, 0, 0, 0);
        dueRow("3: WEAR 10", shed, 1, 10, 10, 10, 10, 10, 10, 30, 30);
        dueRow("3: CHECK", shed, 2, 0, 0, 1, 1, 3, 3, 1, 5);
        dueRow("3: DEPOSIT", shed, 3, 400, NO, 999, 999, 999, 1499, 999, 999);
        dueRow("3: PREMIUM 0", shed, 4, 0, NO, NO, 0, 0, 0, NO, NO);
        dueRow("3: PREMIUM 3", shed, 4, 3, NO, NO, 27, 21, 30, NO, NO);
        dueRow("3: DUE 20", shed, 5, 20, NO, NO, NO, 0, 0, 0, 0);
        dueRow("3: DUE 21", shed, 5, 21, NO, NO, NO, 0, 0, 1, 1);
        dueRow("3: DUE 60", shed, 5, 60, NO, NO, NO, 0, 0, 1, 1);
        dueRow("3: DUE 61", shed, 5, 61, NO, NO, NO, 1, 1, 1, 1);
    }

    private static void promise3AskUsed() {
        HireShed tree = usedFor(39, 4, 10, 2000);
        A.due("3: a tree saw's CHECK looks at HOURS", tree.ask(0, 2, 0), 6);
        A.due("3: a tree saw's WEAR looks at HOURS", tree.ask(0, 1, 5), 8);
        A.due("3: a tree saw's PREMIUM looks at its CHECK", tree.ask(0, 4, 2), 2 * (6 + 1500 / 200));
        A.due("3: a tree saw is not DUE at 60", tree.ask(0, 5, 18), 0);
        A.due("3: a tree saw is DUE at 61", tree.ask(0, 5, 19), 1);
        HireShed plain = usedFor(39, 0, 10, 2000);
        A.due("3: a tool's CHECK is cut", plain.ask(0, 2, 0), 3);
        A.due("3: a tool's WEAR is d alone", plain.ask(0, 1, 5), 5);
        HireShed deep = usedFor(13, 6, 10, 2000);
        A.due("3: a deep pump's CHECK", deep.ask(0, 2, 0), 3 + 1 + 4);
        A.due("3: ask changes no HOURS", deep.told(0, 1), 39);
    }

    private static void promise3AskWrong() {
        HireShed shed = oneOfEach(10, 2000);
        for (int what = 0; what <= 5; what++) {
            for (int d : new int[] {-1, 401, MIN, MAX}) {
                A.due("3: ask(4, " + what + ", " + d + ")", shed.ask(4, what, d), BAD);
                A.due("3: BAD is ahead of NO", shed.ask(0, what, d), BAD);
            }
            for (int tool : new int[] {-1, 7, 23, 24, MIN, MAX}) {
                A.due("3: ask(" + tool + ", " + what + ", 1)", shed.ask(tool, what, 1), BAD);
            }
        }
        for (int what : new int[] {-1, 6, MIN, MAX}) {
            A.due("3: ask(4, " + what + ", 1)", shed.ask(4, what, 1), BAD);
        }
    }

    private static void promise4Trace() {
        int[][][] want = {
            {{1}, {1}, {2, 1}, {2, 1}, {3, 2, 1}, {1}, {4, 1}},
            {{11}, {11}, {11}, {11}, {12, 11}, {13, 11}, {13, 11}},
            {{20}, {21, 20}, {21, 20}, {22, 21, 20}, {22, 21, 20}, {21, 20}, {23, 21, 20}},
            {{}, {31}, {31}, {31}, {32, 31}, {31}, {31}},
            {{}, {}, {41, 31}, {42, 22, 21, 20, 31}, {42, 22, 21, 20, 32, 31}, {}, {}},
            {{}, {}, {}, {43, 11}, {43, 12, 11}, {43, 13, 11}, {43, 13, 11}},
        };
        HireShed shed = oneOfEach(10, 2000);
        for (int what = 0; what <= 5; what++) {
            for (int kind = 0; kind <= 6; kind++) {
                shed.ask(kind, what, 0);
                A.dueTrace("4: ask(" + kind + ", " + what + ", 0)", shed, want[what][kind]);
            }
            A.due("4: trace(MIN)", shed.trace(MIN), NONE);
            A.due("4: trace(MAX)", shed.trace(MAX), NONE);
            A.due("4: trace(8)", shed.trace(8), NONE);
        }
    }

    private static void promise4TraceKept() {
        HireShed shed = oneOfEach(10, 2000);
        shed.ask(4, 0, 1);
        shed.ask(7, 0, 1);
        shed.ask(4, 6, 1);
        shed.ask(4, 0, 401);
        A.dueTrace("4: a BAD ask", shed, 3, 2, 1);
        shed.hire(4, 0);
        shed.hire(4, 0);
        shed.hire(4, 6);
        A.dueTrace("5: hire", shed, 3, 2, 1);
        shed.back(4);
        shed.back(4);
        A.dueTrace("6: back", shed, 3, 2, 1);
        shed.service(4);
        A.dueTrace("7: service", shed, 3, 2, 1);
        shed.day(1);
        shed.tool(3, 1, 1);
        shed.told(4, 0);
        A.dueTrace("4: other calls", shed, 3, 2, 1);
        shed.ask(0, 3, 1);
        A.dueTrace("4: a NO ask empties it", shed);
        shed.hire(3, 0);
        shed.back(3);
        shed.service(3);
        A.dueTrace("4: it stays empty", shed);
    }

    private static void promise5Hire() {
        HireShed shed = oneOfEach(10, 2001);
        int[] deposit = {0, 1000, 1000, 1000, 1500, 1000, 1000};
        shed.day(5);
        for (int kind = 0; kind <= 6; kind++) {
            A.due("5: hire(" + kind + ", 5)", shed.hire(kind, 5), deposit[kind]);
            A.due("5: it is out", shed.told(kind, 2), 1);
            A.due("5: with customer 5", shed.told(kind, 3), 5);
            A.due("5: since day 5", shed.told(kind, 4), 5);
            A.due("5: again", shed.hire(kind, 0), NO);
        }
        A.due("5: account(5)", shed.account(5), -6500);
        A.due("5: account(0)", shed.account(0), 0);
        A.due("5: count(5)", shed.count(5), 7);
        A.due("5: a NO leaves the customer", shed.told(0, 3), 5);
    }

    private static void promise5HireWrong() {
        HireShed shed = oneOfEach(10, 2000);
        for (int wrong : new int[] {-1, 7, 24, MIN, MAX}) {
            A.due("5: hire(" + wrong + ", 0)", shed.hire(wrong, 0), BAD);
        }
        shed.hire(1, 0);
        for (int wrong : new int[] {-1, 6, MIN, MAX}) {
            A.due("5: hire(0, " + wrong + ")", shed.hire(0, wrong), BAD);
            A.due("5: BAD is ahead of NO", shed.hire(1, wrong), BAD);
        }
        A.due("5: nothing changed", shed.told(0, 2), 0);
        A.due("5: one hire", shed.count(5), 1);
        HireShed broken = usedFor(100, 0, 1, 0);
        A.due("5: a broken one", broken.hire(0, 1), NO);
        A.due("5: it stays broken", broken.told(0, 2), 2);
        A.due("5: it was hired once", broken.count(5), 1);
    }

    /** One that is IN, not BROKEN, and yet DUE in 1 day: just above 60, and ahead of breaking. */
    private static void promise5HireDue() {
        HireShed at60 = usedFor(54, 4, 10, 2000);
        A.due("5: HOURS 54 and WEAR 6 are 60", at60.ask(0, 5, 1), 0);
        A.due("5: at 60 it is hired", at60.hire(0, 0), 1500);
        HireShed at61 = usedFor(55, 4, 10, 2000);
        A.due("5: it is in", at61.told(0, 2), 0);
        A.due("5: HOURS 55 and WEAR 6 are 61", at61.ask(0, 5, 1), 1);
        long account = at61.account(0);
        A.due("5: at 61 it is not hired", at61.hire(0, 0), NO);
        A.due("5: the account is as it was", at61.account(0), account);
        A.due("5: it is still in", at61.told(0, 2), 0);
        A.due("5: hired once", at61.count(5), 1);
        A.due("5: BAD is ahead of DUE", at61.hire(0, 6), BAD);
        HireShed pump = usedFor(20, 5, 10, 2000);
        A.due("5: a pump at 60 is in", pump.told(0, 2), 0);
        A.due("5: a pump at 63 is not hired", pump.hire(0, 0), NO);
        HireShed bench = usedFor(60, 3, 10, 2000);
        A.due("5: a bench saw at 61 is not hired", bench.hire(0, 0), NO);
        HireShed saw = usedFor(85, 2, 10, 2000);
        A.due("5: a saw is not serviced", saw.hire(0, 0), 1000);
    }

    private static void promise6Back() {
        HireShed shed = oneOfEach(10, 2000);
        for (int kind = 0; kind <= 6; kind++) {
            A.due("6: not out", shed.back(kind), NO);
            shed.hire(kind, kind % 6);
        }
        int[] price = {10, 10, 23, 21, 36, 10, 30};
        for (int kind = 0; kind <= 6; kind++) {
            A.due("6: back on the same day, kind " + kind, shed.back(kind), price[kind]);
            A.due("6: HOURS", shed.told(kind, 1), kind >= 5 ? 3 : 1);
            A.due("6: it is in", shed.told(kind, 2), 0);
            A.due("6: no customer", shed.told(kind, 3), NONE);
            A.due("6: no day", shed.told(kind, 4), NONE);
            A.due("6: again", shed.back(kind), NO);
        }
        A.due("6: account(0), two tools", shed.account(0), -40);
        A.due("6: account(4)", shed.account(4), -36);
        for (int wrong : new int[] {-1, 7, 24, MIN, MAX}) {
            A.due("6: back(" + wrong + ")", shed.back(wrong), BAD);
        }
    }

    private static void promise6BackPremium() {
        HireShed shed = usedFor(20, 4, 10, 2000);
        A.due("6: HOURS", shed.told(0, 1), 20);
        A.due("6: first price", shed.account(0), -(2 * 260 - 65 + 20 * (3 + 7)));
        shed.hire(0, 1);
        shed.day(1);
        shed.day(8);
        int want = 2 * 117 - 10 + 9 * (5 + 7);
        A.due("6: the PREMIUM looks at HOURS ahead of the WEAR", shed.back(0), want);
        A.due("6: its account", shed.account(1), -want);
        A.due("6: a tree saw's WEAR adds HOURS / 10", shed.told(0, 1), 31);
    }

    private static void promise6BackBreaks() {
        int[] breaksAt = {100, 90, 90, 70, 70, 30, 17};
        for (int kind = 0; kind <= 6; kind++) {
            HireShed whole = usedFor(breaksAt[kind] - 1, kind, 1, 0);
            A.due("6: kind " + kind + " is whole", whole.told(0, 2), 0);
            HireShed broken = usedFor(breaksAt[kind], kind, 1, 0);
            A.due("6: kind " + kind + " is broken", broken.told(0, 2), 2);
            A.due("6: no customer", broken.told(0, 3), NONE);
            A.due("6: no day", broken.told(0, 4), NONE);
            A.due("6: back of a broken one", broken.back(0), NO);
            A.due("6: count(2)", broken.count(2), 1);
        }
    }

    private static void promise7Service() {
        int[] fresh = {100, 150, 150, 250, 250, 150, 350};
        HireShed shed = oneOfEach(10, 2000);
        for (int kind = 0; kind <= 6; kind++) {
            A.due("7: service of a fresh one, kind " + kind, shed.service(kind), fresh[kind]);
        }
        A.due("7: COSTS", shed.count(4), 1400);
        shed.hire(4, 0);
        A.due("7: it is out", shed.service(4), NO);
        A.due("7: it stays out", shed.told(4, 2), 1);
        A.due("7: COSTS are as they were", shed.count(4), 1400);
        for (int wrong : new int[] {-1, 7, 24, MIN, MAX}) {
            A.due("7: service(" + wrong + ")", shed.service(wrong), BAD);
        }
        HireShed broken = usedFor(109, 0, 1, 0);
        long account = broken.account(0);
        A.due("7: a broken one", broken.service(0), 600);
        A.due("7: HOURS are 0", broken.told(0, 1), 0);
        A.due("7: it is in", broken.told(0, 2), 0);
        A.due("7: no account pays", broken.account(0), account);
        A.due("7: it is hired again", broken.hire(0, 3), 0);
        HireShed whole = usedFor(25, 3, 1, 0);
        A.due("7: a used one that is in", whole.service(0), 350);
        A.due("7: its HOURS are 0", whole.told(0, 1), 0);
        A.due("7: again", whole.service(0), 250);
        A.due("7: COSTS of both", whole.count(4), 600);
    }

    private static void promise8Day() {
        HireShed shed = new HireShed();
        for (int wrong : new int[] {0, -1, 51, MIN, MAX}) {
            A.due("8: day(" + wrong + ")", shed.day(wrong), BAD);
        }
        A.due("8: TODAY is as it was", shed.count(3), 0);
        A.due("8: day(1)", shed.day(1), 1);
        for (int i = 1; i < 400; i++) {
            A.due("8: day(50)", shed.day(50), 1 + 50 * i);
        }
        A.due("8: 20001", shed.day(50), FULL);
        A.due("8: BAD is ahead of FULL", shed.day(51), BAD);
        A.due("8: TODAY", shed.count(3), 19951);
        A.due("8: 20000", shed.day(49), 20000);
        A.due("8: one more", shed.day(1), FULL);
        A.due("8: TODAY is the last day", shed.count(3), 20000);
    }

    private static void promise9Account() {
        HireShed shed = new HireShed();
        shed.tool(1, 1000, 100000);
        for (int customer = 0; customer <= 5; customer++) {
            shed.hire(0, customer);
            A.due("9: out", shed.account(customer), -50000);
            shed.day(customer + 1);
            shed.back(0);
            A.due("9: back", shed.account(customer), -1000 * (customer + 1));
        }
        A.due("9: the others are as they were", shed.account(0), -1000);
        for (int wrong : new int[] {-1, 6, MIN, MAX}) {
            A.due("9: account(" + wrong + ")", shed.account(wrong), 0);
        }
    }

    private static void promise10Told() {
        HireShed shed = oneOfEach(10, 2000);
        int[] insured = {0, 0, 1, 1, 1, 0, 0}, serviced = {0, 0, 0, 1, 1, 1, 1};
        for (int kind = 0; kind <= 6; kind++) {
            int[] want = {kind, 0, 0, NONE, NONE, insured[kind], serviced[kind]};
            for (int what = 0; what <= 6; what++) {
                A.due("10: told(" + kind + ", " + what + ")", shed.told(kind, what), want[what]);
            }
        }
        shed.hire(0, 0);
        A.due("10: customer 0", shed.told(0, 3), 0);
        A.due("10: since day 0", shed.told(0, 4), 0);
        for (int wrong : new int[] {-1, 7, MIN, MAX}) {
            A.due("10: told(0, " + wrong + ")", shed.told(0, wrong), BAD);
        }
        for (int wrong : new int[] {-1, 7, 24, MIN, MAX}) {
            A.due("10: told(" + wrong + ", 0)", shed.told(wrong, 0), BAD);
        }
    }

    private static void promise11Count() {
        HireShed shed = oneOfEach(10, 2000);
        shed.hire(0, 0);
        shed.hire(5, 1);
        shed.hire(6, 2);
        pass(shed, 40);
        shed.back(5);
        shed.service(1);
        int[] want = {4, 2, 1, 40, 150, 3};
        for (int what = 0; what <= 5; what++) {
            A.due("11: count(" + what + ")", shed.count(what), want[what]);
        }
        shed.service(5);
        A.due("11: serviced, it is in", shed.count(0), 5);
        A.due("11: and not broken", shed.count(2), 0);
        A.due("11: COSTS of both", shed.count(4), 150 + 100 + 50 * 13);
        for (int wrong : new int[] {-1, 6, MIN, MAX}) {
            A.due("11: count(" + wrong + ")", shed.count(wrong), BAD);
        }
    }
}
