/** The sheds that tests begin with. */
final class Sheds {
    static final int KINDS = 7;
    /** In busy() and full(): numbers 3 * kind are IN, one further OUT, two further BROKEN. */
    static final int IN = 0, OUT = 1, BROKEN = 2;
    static final int BUSY_TOOLS = 3 * KINDS;
    static final int FULL_TOOLS = 24;
    /** THE TRACE of busy() and full(), the longest that there is. */
    static final int[] LONGEST_TRACE = {42, 22, 21, 20, 32, 31};

    private Sheds() {
    }

    static CountedShed oneTool(int kind, int rate, int value) {
        CountedShed shed = new CountedShed();
        shed.tool(kind, rate, value);
        return shed;
    }

    /** One tool of every kind, its number being its kind. */
    static CountedShed oneOfEach(int rate, int value) {
        CountedShed shed = new CountedShed();
        for (int kind = 0; kind < KINDS; kind++) {
            shed.tool(kind, rate, value);
        }
        return shed;
    }

    /** Tool 0 is out with customer 0 since day 0; so many days have gone. */
    static CountedShed outFor(int days, int kind, int rate, int value) {
        CountedShed shed = oneTool(kind, rate, value);
        shed.hire(0, 0);
        pass(shed, days);
        return shed;
    }

    /** Tool 0 has been out with customer 0 for so many days, once. */
    static CountedShed usedFor(int days, int kind, int rate, int value) {
        CountedShed shed = outFor(days, kind, rate, value);
        shed.back(0);
        return shed;
    }

    static void pass(CountedShed shed, int days) {
        for (int left = days; left > 0; left -= 50) {
            shed.day(Math.min(50, left));
        }
    }

    /** The number, in busy() and full(), of the tool of that kind that is IN, OUT or BROKEN. */
    static int number(int kind, int how) {
        return 3 * kind + how;
    }

    /** Every kind IN, OUT and BROKEN; no ACCOUNT, HOURS or COSTS are 0; THE TRACE is the longest one. */
    static CountedShed busy() {
        CountedShed shed = new CountedShed();
        for (int i = 0; i < BUSY_TOOLS; i++) {
            shed.tool(i / 3, 10 + i, 2000 + 111 * i);
        }
        hireAll(shed, BROKEN);
        pass(shed, 100);
        backAll(shed, BROKEN);
        shed.service(number(0, IN));
        hireAll(shed, IN);
        hireAll(shed, OUT);
        shed.day(12);
        backAll(shed, IN);
        backAll(shed, OUT);
        hireAll(shed, OUT);
        shed.day(3);
        shed.ask(number(4, IN), 4, 5);
        return shed;
    }

    private static void hireAll(CountedShed shed, int how) {
        for (int kind = 0; kind < KINDS; kind++) {
            shed.hire(number(kind, how), (kind + how) % 6);
        }
    }

    private static void backAll(CountedShed shed, int how) {
        for (int kind = 0; kind < KINDS; kind++) {
            shed.back(number(kind, how));
        }
    }

    /** The busy shed with all the tools that it can hold. */
    static CountedShed full() {
        CountedShed shed = busy();
        for (int i = BUSY_TOOLS; i < FULL_TOOLS; i++) {
            shed.tool(i % KINDS, 1000, 100000);
        }
        return shed;
    }

    /** Two pumps, one IN and one OUT since day 0; TODAY is last. */
    static CountedShed onDay(int last) {
        CountedShed shed = oneTool(5, 10, 2000);
        shed.tool(6, 20, 3000);
        shed.hire(1, 3);
        shed.ask(0, 5, 7);
        pass(shed, last);
        return shed;
    }
}
