/** A shed that hires out tools by the day. Numbers in comments are those of the document's bodies. */
public final class HireShed {
    public static final int NONE = -1, BAD = -2, NO = -3, FULL = -4;

    private static final int MOST_TOOLS = 24;
    private static final int LAST_KIND = 6;
    private static final int MOST_RATE = 1000;
    private static final int MOST_VALUE = 100000;
    private static final int CUSTOMERS = 6;
    private static final int MOST_DAYS_ASKED = 400;
    private static final int MOST_DAYS_AT_ONCE = 50;
    private static final int LAST_DAY = 20000;

    private static final int IN = 0, OUT = 1, BROKEN = 2;
    private static final int CHARGE = 0, WEAR = 1, CHECK = 2, DEPOSIT = 3, PREMIUM = 4, DUE = 5;

    private final Trace latest = new Trace();
    private final Tool[] tools = new Tool[MOST_TOOLS];
    private final long[] accounts = new long[CUSTOMERS];
    private int toolCount = 0;
    private int today = 0;
    private int costs = 0;
    private int hires = 0;

    public HireShed() {
    }

    public int tool(int kind, int rate, int value) {
        if (!isWithin(kind, 0, LAST_KIND) || !isWithin(rate, 1, MOST_RATE) || !isWithin(value, 0, MOST_VALUE)) {
            return BAD;
        }
        if (toolCount >= tools.length) {
            return FULL;
        }
        int number = toolCount;
        tools[number] = newTool(kind, rate, value);
        toolCount++;
        return number;
    }

    public int ask(int tool, int what, int d) {
        Tool asked = toolAt(tool);
        if (asked == null || !isWithin(what, CHARGE, DUE) || !isWithin(d, 0, MOST_DAYS_ASKED)) {
            return BAD;
        }
        latest.begin();
        int answer = hasAnswer(asked, what) ? answerOf(asked, what, d) : NO;
        latest.end();
        return answer;
    }

    public int trace(int i) {
        return latest.numberAt(i);
    }

    public int hire(int tool, int customer) {
        Tool hired = toolAt(tool);
        if (hired == null || !isCustomer(customer)) {
            return BAD;
        }
        if (hired.how != IN || hired.due(1) == 1) {
            return NO;
        }
        int deposit = hired.deposit();
        pay(customer, -deposit);
        hired.goOut(customer, today);
        hires++;
        return deposit;
    }

    public int back(int tool) {
        Tool returned = toolAt(tool);
        if (returned == null) {
            return BAD;
        }
        if (returned.how != OUT) {
            return NO;
        }
        int days = Math.max(1, today - returned.since);
        int price = returned.charge(days) + returned.premium(days);
        pay(returned.customer, returned.deposit() - price);
        returned.comeBack(days);
        return price;
    }

    public int service(int tool) {
        Tool serviced = toolAt(tool);
        if (serviced == null) {
            return BAD;
        }
        if (serviced.how == OUT) {
            return NO;
        }
        int cost = 100 + 50 * serviced.check();
        serviced.renew();
        costs += cost;
        return cost;
    }

    public int day(int n) {
        if (!isWithin(n, 1, MOST_DAYS_AT_ONCE)) {
            return BAD;
        }
        if (today + n > LAST_DAY) {
            return FULL;
        }
        today += n;
        return today;
    }

    public long account(int customer) {
        return isCustomer(customer) ? accounts[customer] : 0;
    }

    public int told(int tool, int what) {
        Tool named = toolAt(tool);
        if (named == null) {
            return BAD;
        }
        switch (what) {
            case 0: return named.kind;
            case 1: return named.hours;
            case 2: return named.how;
            case 3: return named.customer;
            case 4: return named.since;
            case 5: return named.isInsured() ? 1 : 0;
            case 6: return named.isServiced() ? 1 : 0;
            default: return BAD;
        }
    }

    public int count(int what) {
        switch (what) {
            case 0: return toolsThatAre(IN);
            case 1: return toolsThatAre(OUT);
            case 2: return toolsThatAre(BROKEN);
            case 3: return today;
            case 4: return costs;
            case 5: return hires;
            default: return BAD;
        }
    }

    private static boolean isWithin(int number, int least, int most) {
        return number >= least && number <= most;
    }

    private static boolean isCustomer(int customer) {
        return isWithin(customer, 0, CUSTOMERS - 1);
    }

    private Tool toolAt(int number) {
        return number >= 0 && number < tools.length ? tools[number] : null;
    }

    private Tool newTool(int kind, int rate, int value) {
        switch (kind) {
            case 1: return new Powered(kind, rate, value, latest);
            case 2: return new Saw(kind, rate, value, latest);
            case 3: return new BenchSaw(kind, rate, value, latest);
            case 4: return new TreeSaw(kind, rate, value, latest);
            case 5: return new Pump(kind, rate, value, latest);
            case 6: return new DeepPump(kind, rate, value, latest);
            default: return new Tool(kind, rate, value, latest);
        }
    }

    private static boolean hasAnswer(Tool asked, int what) {
        switch (what) {
            case DEPOSIT: return asked.hasDeposit();
            case PREMIUM: return asked.isInsured();
            case DUE: return asked.isServiced();
            default: return true;
        }
    }

    private static int answerOf(Tool asked, int what, int d) {
        switch (what) {
            case CHARGE: return asked.charge(d);
            case WEAR: return asked.wear(d);
            case CHECK: return asked.check();
            case DEPOSIT: return asked.deposit();
            case PREMIUM: return asked.premium(d);
            case DUE: return asked.due(d);
            default: return BAD;
        }
    }

    private void pay(int customer, int cents) {
        if (isCustomer(customer)) {
            accounts[customer] += cents;
        }
    }

    private int toolsThatAre(int how) {
        int found = 0;
        for (Tool each : tools) {
            if (each != null && each.how == how) {
                found++;
            }
        }
        return found;
    }

    /** The numbers that bodies leave, but only between begin and end: hire, back and service leave none. */
    private static final class Trace {
        /** The longest, a tree saw's premium, is 42, 22, 21, 20, 32, 31. */
        private static final int MOST_NUMBERS = 8;

        private final int[] numbers = new int[MOST_NUMBERS];
        private int size = 0;
        private boolean open = false;

        void begin() {
            size = 0;
            open = true;
        }

        void end() {
            open = false;
        }

        void leave(int number) {
            if (open && size < numbers.length) {
                numbers[size] = number;
                size++;
            }
        }

        int numberAt(int i) {
            return i >= 0 && i < size && i < numbers.length ? numbers[i] : NONE;
        }
    }

    /** Kind 0. What a kind has none of is 0 here and leaves no number, so hire and back need not ask for the kind. */
    private static class Tool {
        final Trace trace;
        final int kind;
        final int rate;
        final int value;
        int hours = 0;
        int how = IN;
        int customer = NONE;
        int since = NONE;

        Tool(int kind, int rate, int value, Trace trace) {
            this.kind = kind;
            this.rate = rate;
            this.value = value;
            this.trace = trace;
        }

        boolean hasDeposit() {
            return false;
        }

        boolean isInsured() {
            return false;
        }

        boolean isServiced() {
            return false;
        }

        int charge(int d) {
            trace.leave(1);
            return rate * d;
        }

        int wear(int d) {
            trace.leave(11);
            return d;
        }

        int check() {
            trace.leave(20);
            return hours / 10;
        }

        int deposit() {
            return 0;
        }

        int premium(int d) {
            return 0;
        }

        /** Stands here because serviced kinds are on two branches, and 43 is told for both. */
        int due(int d) {
            if (!isServiced()) {
                return 0;
            }
            trace.leave(43);
            return hours + wear(d) > 60 ? 1 : 0;
        }

        void goOut(int hirer, int today) {
            how = OUT;
            customer = hirer;
            since = today;
        }

        void comeBack(int days) {
            customer = NONE;
            since = NONE;
            hours += wear(days);
            how = check() > 9 ? BROKEN : IN;
        }

        void renew() {
            hours = 0;
            how = IN;
        }
    }

    private static class Powered extends Tool {
        Powered(int kind, int rate, int value, Trace trace) {
            super(kind, rate, value, trace);
        }

        @Override
        boolean hasDeposit() {
            return true;
        }

        @Override
        int check() {
            trace.leave(21);
            return super.check() + 1;
        }

        @Override
        int deposit() {
            trace.leave(31);
            return value / 2;
        }
    }

    private static class Saw extends Powered {
        Saw(int kind, int rate, int value, Trace trace) {
            super(kind, rate, value, trace);
        }

        @Override
        boolean isInsured() {
            return true;
        }

        @Override
        int charge(int d) {
            trace.leave(2);
            return super.charge(d) + 3 * d;
        }

        @Override
        int premium(int d) {
            trace.leave(41);
            return d * (deposit() / 100);
        }
    }

    private static class BenchSaw extends Saw {
        BenchSaw(int kind, int rate, int value, Trace trace) {
            super(kind, rate, value, trace);
        }

        @Override
        boolean isServiced() {
            return true;
        }

        @Override
        int check() {
            trace.leave(22);
            return super.check() + 2;
        }

        @Override
        int premium(int d) {
            trace.leave(42);
            return d * (check() + deposit() / 200);
        }
    }

    private static final class TreeSaw extends BenchSaw {
        TreeSaw(int kind, int rate, int value, Trace trace) {
            super(kind, rate, value, trace);
        }

        @Override
        int charge(int d) {
            trace.leave(3);
            return 2 * super.charge(d) - 5 * Math.max(0, d - 7);
        }

        @Override
        int wear(int d) {
            trace.leave(12);
            return super.wear(d) + hours / 10;
        }

        @Override
        int deposit() {
            trace.leave(32);
            return super.deposit() + 500;
        }
    }

    private static class Pump extends Powered {
        Pump(int kind, int rate, int value, Trace trace) {
            super(kind, rate, value, trace);
        }

        @Override
        boolean isServiced() {
            return true;
        }

        @Override
        int wear(int d) {
            trace.leave(13);
            return 3 * super.wear(d);
        }
    }

    private static final class DeepPump extends Pump {
        DeepPump(int kind, int rate, int value, Trace trace) {
            super(kind, rate, value, trace);
        }

        @Override
        int charge(int d) {
            trace.leave(4);
            return super.charge(d) + value / 100;
        }

        @Override
        int check() {
            trace.leave(23);
            return super.check() + 4;
        }
    }
}
