/** The document's promises one by one, in ordinary use. TermsEdgesTest and CallEdgesTest have the edges. */
public final class PromisesTest {
    private static final int NONE = HireShed.NONE, BAD = HireShed.BAD, NO = HireShed.NO;
    private static final Answers A = new Answers();

    public static void main(String[] args) {
        promise1NewObject();
        promise2Tool();
        promise3AskFresh();
        promise3AskUsed();
        promise4Trace();
        promise5Hire();
        promise6Back();
        promise6BackPremium();
        promise7Service();
        promise8Day();
        promise9Account();
        promise10Told();
        promise11Count();
        A.end("PromisesTest");
    }

    private static void dueRow(String call, CountedShed shed, int what, int d, int... want) {
        for (int kind = 0; kind < want.length; kind++) {
            A.due(call + " of kind " + kind, shed.ask(kind, what, d), want[kind]);
        }
    }

    private static void promise1NewObject() {
        CountedShed shed = new CountedShed();
        A.due("1: no tool is in", shed.count(0), 0);
        A.due("1: there is no tool 0", shed.told(0, 0), BAD);
        A.due("1: the first tool", shed.tool(0, 1, 0), 0);
    }

    private static void promise2Tool() {
        CountedShed shed = new CountedShed();
        for (int kind = 0; kind <= 6; kind++) {
            A.due("2: tool of kind " + kind, shed.tool(kind, 7, 1234), kind);
        }
        A.due("2: another rate and value", shed.tool(6, 1000, 100000), 7);
        A.due("2: the rate is kept", shed.ask(0, 0, 10), 70);
        A.due("2: the other rate and value are kept", shed.ask(7, 0, 10), 11000);
        A.due("2: all are in", shed.count(0), 8);
    }

    private static void promise3AskFresh() {
        CountedShed shed = Sheds.oneOfEach(11, 1999);
        dueRow("3: CHARGE 3", shed, 0, 3, 33, 33, 42, 42, 84, 33, 52);
        dueRow("3: CHARGE 9", shed, 0, 9, 99, 99, 126, 126, 242, 99, 118);
        dueRow("3: WEAR 10", shed, 1, 10, 10, 10, 10, 10, 10, 30, 30);
        dueRow("3: CHECK", shed, 2, 0, 0, 1, 1, 3, 3, 1, 5);
        dueRow("3: DEPOSIT", shed, 3, 0, NO, 999, 999, 999, 1499, 999, 999);
        dueRow("3: PREMIUM 3", shed, 4, 3, NO, NO, 27, 21, 30, NO, NO);
        dueRow("3: DUE 10", shed, 5, 10, NO, NO, NO, 0, 0, 0, 0);
        dueRow("3: DUE 40", shed, 5, 40, NO, NO, NO, 0, 0, 1, 1);
        dueRow("3: DUE 90", shed, 5, 90, NO, NO, NO, 1, 1, 1, 1);
    }

    private static void promise3AskUsed() {
        CountedShed tree = Sheds.usedFor(39, 4, 10, 2000);
        A.due("3: a tree saw's CHECK looks at HOURS", tree.ask(0, 2, 0), 6);
        A.due("3: a tree saw's WEAR looks at HOURS", tree.ask(0, 1, 5), 8);
        A.due("3: a tree saw's PREMIUM looks at its CHECK", tree.ask(0, 4, 2), 2 * (6 + 1500 / 200));
        CountedShed deep = Sheds.usedFor(13, 6, 10, 2000);
        A.due("3: a deep pump's CHECK", deep.ask(0, 2, 0), 3 + 1 + 4);
        A.due("3: ask changes no HOURS", deep.told(0, 1), 39);
    }

    private static void promise4Trace() {
        CountedShed shed = Sheds.oneOfEach(10, 2000);
        shed.ask(4, 0, 1);
        A.dueTrace("4: a tree saw's CHARGE", shed, 3, 2, 1);
        shed.hire(4, 0);
        shed.back(4);
        shed.service(4);
        shed.day(1);
        shed.tool(3, 1, 1);
        A.dueTrace("4: other calls leave it", shed, 3, 2, 1);
        shed.ask(6, 2, 1);
        A.dueTrace("4: a deep pump's CHECK", shed, 23, 21, 20);
    }

    private static void promise5Hire() {
        CountedShed shed = Sheds.oneOfEach(10, 2001);
        int[] deposit = {0, 1000, 1000, 1000, 1500, 1000, 1000};
        shed.day(5);
        for (int kind = 0; kind <= 6; kind++) {
            A.due("5: hire(" + kind + ", 5)", shed.hire(kind, 5), deposit[kind]);
            A.due("5: it is out", shed.told(kind, 2), 1);
            A.due("5: with customer 5", shed.told(kind, 3), 5);
            A.due("5: since day 5", shed.told(kind, 4), 5);
        }
        A.due("5: account(5)", shed.account(5), -6500);
        A.due("5: account(0)", shed.account(0), 0);
        A.due("5: count(5)", shed.count(5), 7);
    }

    private static void promise6Back() {
        CountedShed shed = Sheds.oneOfEach(10, 2000);
        for (int kind = 0; kind <= 6; kind++) {
            shed.hire(kind, kind % 6);
        }
        shed.day(3);
        int[] price = {30, 30, 69, 63, 108, 30, 50};
        for (int kind = 0; kind <= 6; kind++) {
            A.due("6: back, kind " + kind, shed.back(kind), price[kind]);
            A.due("6: HOURS", shed.told(kind, 1), kind >= 5 ? 9 : 3);
            A.due("6: it is in", shed.told(kind, 2), 0);
            A.due("6: no customer", shed.told(kind, 3), NONE);
            A.due("6: no day", shed.told(kind, 4), NONE);
        }
        A.due("6: account(0), two tools", shed.account(0), -80);
        A.due("6: account(4)", shed.account(4), -108);
    }

    private static void promise6BackPremium() {
        CountedShed shed = Sheds.usedFor(20, 4, 10, 2000);
        A.due("6: HOURS", shed.told(0, 1), 20);
        A.due("6: first price", shed.account(0), -(2 * 260 - 65 + 20 * (3 + 7)));
        shed.hire(0, 1);
        shed.day(1);
        shed.day(8);
        int want = 2 * 117 - 10 + 9 * (5 + 7);
        A.due("6: the PREMIUM looks at HOURS ahead of the WEAR", shed.back(0), want);
        A.due("6: its account", shed.account(1), -want);
        A.due("6: a tree saw's WEAR adds HOURS / 10", shed.told(0, 1), 31);
    }

    private static void promise7Service() {
        int[] fresh = {100, 150, 150, 250, 250, 150, 350};
        CountedShed shed = Sheds.oneOfEach(10, 2000);
        for (int kind = 0; kind <= 6; kind++) {
            A.due("7: service of a fresh one, kind " + kind, shed.service(kind), fresh[kind]);
        }
        A.due("7: COSTS", shed.count(4), 1400);
        CountedShed broken = Sheds.usedFor(109, 0, 1, 0);
        A.due("7: a broken one", broken.service(0), 600);
        A.due("7: HOURS are 0", broken.told(0, 1), 0);
        A.due("7: it is in", broken.told(0, 2), 0);
        A.due("7: it is hired again", broken.hire(0, 3), 0);
        CountedShed whole = Sheds.usedFor(25, 3, 1, 0);
        A.due("7: a used one that is in", whole.service(0), 350);
        A.due("7: its HOURS are 0", whole.told(0, 1), 0);
    }

    private static void promise8Day() {
        CountedShed shed = new CountedShed();
        A.due("8: day(7)", shed.day(7), 7);
        A.due("8: day(30)", shed.day(30), 37);
        A.due("8: TODAY", shed.count(3), 37);
    }

    private static void promise9Account() {
        CountedShed shed = Sheds.oneTool(1, 1000, 100000);
        for (int customer = 0; customer <= 5; customer++) {
            shed.hire(0, customer);
            A.due("9: out", shed.account(customer), -50000);
            shed.day(customer + 1);
            shed.back(0);
            A.due("9: back", shed.account(customer), -1000 * (customer + 1));
        }
        A.due("9: the others are as they were", shed.account(0), -1000);
    }

    private static void promise10Told() {
        CountedShed shed = Sheds.oneOfEach(10, 2000);
        int[] insured = {0, 0, 1, 1, 1, 0, 0}, serviced = {0, 0, 0, 1, 1, 1, 1};
        for (int kind = 0; kind <= 6; kind++) {
            int[] want = {kind, 0, 0, NONE, NONE, insured[kind], serviced[kind]};
            for (int what = 0; what <= 6; what++) {
                A.due("10: told(" + kind + ", " + what + ")", shed.told(kind, what), want[what]);
            }
        }
    }

    private static void promise11Count() {
        CountedShed shed = Sheds.oneOfEach(10, 2000);
        shed.hire(0, 0);
        shed.hire(5, 1);
        shed.hire(6, 2);
        Sheds.pass(shed, 40);
        shed.back(5);
        shed.service(1);
        int[] want = {4, 2, 1, 40, 150, 3};
        for (int what = 0; what <= 5; what++) {
            A.due("11: count(" + what + ")", shed.count(what), want[what]);
        }
    }
}
