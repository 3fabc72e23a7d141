/** The sentences under 'Terms' that name a boundary: a test for each, on both sides of it. */
public final class TermsEdgesTest {
    private static final int NONE = HireShed.NONE, BAD = HireShed.BAD, NO = HireShed.NO, FULL = HireShed.FULL;
    private static final int CHARGE = 0, WEAR = 1, CHECK = 2, DEPOSIT = 3, PREMIUM = 4, DUE = 5;
    private static final int HOURS = 1, HOW = 2, CUSTOMER = 3, SINCE = 4;
    private static final Answers A = new Answers();

    public static void main(String[] args) {
        atMost24Tools();
        ratesFrom1To1000();
        valuesFrom0To100000();
        kindsFrom0To6();
        howAllIsAtFirst();
        bodiesOfEveryKind();
        daysBeyondThe7th();
        quotientsOfHoursAreCut();
        quotientsOfValueAreCut();
        quotientsOfDepositAreCut();
        depositOfPoweredOnesAndBelow();
        premiumOfSawsAndBelow();
        dueOfServicedOnes();
        dueAbove60WhenFresh();
        dueAbove60WhenUsed();
        hiredIfIn();
        notHiredIfDueIn1Day();
        unservicedOnesAreNeverDue();
        accountIsLessByTheDeposit();
        atLeast1Day();
        atLeast1DaySinceALaterDay();
        moreDaysThanCanBeAskedFor();
        brokenIfCheckIsAbove9();
        hoursAddUpUntilItBreaks();
        serviceOfOneThatIsNotOut();
        costByTheCheckAsItWasAhead();
        badIsAheadOfNoAndFull();
        A.end("TermsEdgesTest");
    }

    private static void atMost24Tools() {
        String s = "24 at most";
        CountedShed shed = new CountedShed();
        for (int i = 0; i < 24; i++) {
            A.due(s, shed, shed.tool(i % 7, 1 + i, i), i);
        }
        A.due(s, shed, shed.tool(0, 1, 0), FULL);
        A.due(s, shed, shed.count(0), 24);
        A.due(s, shed, shed.told(23, 0), 23 % 7);
        A.due(s, shed, shed.told(24, 0), BAD);
        for (int kind : Range.allowed(0, 6)) {
            A.refused(s, Sheds::full, FULL, x -> x.tool(kind, 1, 0));
            A.refused(s, Sheds::full, FULL, x -> x.tool(kind, 1000, 100000));
        }
    }

    private static void ratesFrom1To1000() {
        String s = "a RATE (1 .. 1000 cents a day)";
        for (int rate : Range.allowed(1, 1000)) {
            CountedShed shed = new CountedShed();
            A.due(s, shed, shed.tool(0, rate, 0), 0);
            A.due(s, shed, shed.ask(0, CHARGE, 1), rate);
            A.due(s, shed, shed.ask(0, CHARGE, 400), 400 * rate);
        }
        for (int rate : Range.refused(1, 1000)) {
            A.refused(s, Sheds::busy, BAD, x -> x.tool(0, rate, 0));
            A.refused(s, CountedShed::new, BAD, x -> x.tool(6, rate, 100000));
        }
    }

    private static void valuesFrom0To100000() {
        String s = "a VALUE (0 .. 100000 cents)";
        for (int value : Range.allowed(0, 100000)) {
            CountedShed shed = new CountedShed();
            A.due(s, shed, shed.tool(6, 1, value), 0);
            A.due(s, shed, shed.ask(0, DEPOSIT, 0), value / 2);
            A.due(s, shed, shed.ask(0, CHARGE, 0), value / 100);
        }
        for (int value : Range.refused(0, 100000)) {
            A.refused(s, Sheds::busy, BAD, x -> x.tool(0, 1, value));
            A.refused(s, CountedShed::new, BAD, x -> x.tool(6, 1000, value));
        }
    }

    private static void kindsFrom0To6() {
        String s = "KINDS, each below one: 0 TOOL .. 6 DEEP PUMP";
        for (int kind = 0; kind <= 6; kind++) {
            CountedShed shed = new CountedShed();
            A.due(s, shed, shed.tool(kind, 1, 0), 0);
            A.due(s, shed, shed.told(0, 0), kind);
        }
        for (int kind : Range.refused(0, 6)) {
            A.refused(s, Sheds::busy, BAD, x -> x.tool(kind, 1, 0));
            A.refused(s, CountedShed::new, BAD, x -> x.tool(kind, 1000, 100000));
        }
    }

    private static void howAllIsAtFirst() {
        CountedShed shed = Sheds.oneOfEach(10, 2000);
        for (int kind = 0; kind <= 6; kind++) {
            A.due("HOURS (0 at first)", shed, shed.told(kind, HOURS), 0);
            A.due("A TOOL is IN (at first)", shed, shed.told(kind, HOW), 0);
            A.due("A TOOL is IN (at first)", shed, shed.told(kind, CUSTOMER), NONE);
            A.due("A TOOL is IN (at first)", shed, shed.told(kind, SINCE), NONE);
        }
        A.due("A TOOL is IN (at first)", shed, shed.count(0), 7);
        A.due("TODAY is 0 at first", shed, shed.count(3), 0);
        for (int customer = 0; customer <= 5; customer++) {
            A.due("an ACCOUNT (cents; 0 at first)", shed, shed.account(customer), 0);
        }
    }

    private static void bodiesOfEveryKind() {
        int[][][] want = {
            {{1}, {1}, {2, 1}, {2, 1}, {3, 2, 1}, {1}, {4, 1}},
            {{11}, {11}, {11}, {11}, {12, 11}, {13, 11}, {13, 11}},
            {{20}, {21, 20}, {21, 20}, {22, 21, 20}, {22, 21, 20}, {21, 20}, {23, 21, 20}},
            {{}, {31}, {31}, {31}, {32, 31}, {31}, {31}},
            {{}, {}, {41, 31}, {42, 22, 21, 20, 31}, {42, 22, 21, 20, 32, 31}, {}, {}},
            {{}, {}, {}, {43, 11}, {43, 12, 11}, {43, 13, 11}, {43, 13, 11}},
        };
        String s = "by the BODY told for its KIND, else by that for the nearest KIND above";
        for (int what = CHARGE; what <= DUE; what++) {
            CountedShed shed = Sheds.oneOfEach(10, 2000);
            for (int kind = 0; kind <= 6; kind++) {
                shed.ask(kind, what, 400);
                A.dueTrace(s, shed, want[what][kind]);
            }
        }
    }

    private static void daysBeyondThe7th() {
        String s = "less 5 for each day beyond the 7th";
        int[][] chargeOfDays = {{0, 0}, {1, 26}, {6, 156}, {7, 182}, {8, 203}, {9, 224}, {400, 8435}};
        CountedShed shed = Sheds.oneOfEach(10, 2000);
        for (int[] row : chargeOfDays) {
            A.due(s, shed, shed.ask(4, CHARGE, row[0]), row[1]);
            A.due("2 of SAWS: AS ABOVE, and 3 times d", shed, shed.ask(3, CHARGE, row[0]), 13 * row[0]);
        }
        CountedShed seven = Sheds.outFor(7, 4, 10, 0), eight = Sheds.outFor(8, 4, 10, 0);
        A.due(s, seven, seven.back(0), 182 + 7 * (3 + 2));
        A.due(s, eight, eight.back(0), 203 + 8 * (3 + 2));
    }

    private static void quotientsOfHoursAreCut() {
        int[][] tenthOfHours = {{1, 0}, {9, 0}, {10, 1}, {19, 1}, {20, 2}};
        for (int[] row : tenthOfHours) {
            CountedShed plain = Sheds.usedFor(row[0], 0, 10, 2000);
            A.due("20 of TOOLS: HOURS / 10", plain, plain.ask(0, CHECK, 0), row[1]);
            A.due("11 of TOOLS: d", plain, plain.ask(0, WEAR, 5), 5);
            CountedShed tree = Sheds.usedFor(row[0], 4, 10, 2000);
            A.due("12 of TREE SAWS: AS ABOVE, and HOURS / 10", tree, tree.ask(0, WEAR, 0), row[1]);
            A.due("12 of TREE SAWS: AS ABOVE, and HOURS / 10", tree, tree.ask(0, WEAR, 400), 400 + row[1]);
            A.due("22 of BENCH SAWS: AS ABOVE, and 2", tree, tree.ask(0, CHECK, 0), row[1] + 3);
        }
    }

    private static void quotientsOfValueAreCut() {
        int[][] halfAndHundredth = {
            {0, 0, 0}, {1, 0, 0}, {2, 1, 0}, {3, 1, 0}, {99, 49, 0}, {100, 50, 1}, {199, 99, 1}, {200, 100, 2},
        };
        for (int[] row : halfAndHundredth) {
            CountedShed shed = Sheds.oneOfEach(10, row[0]);
            A.due("31 of POWERED ones: VALUE / 2", shed, shed.ask(1, DEPOSIT, 0), row[1]);
            A.due("32 of TREE SAWS: AS ABOVE, and 500", shed, shed.ask(4, DEPOSIT, 0), row[1] + 500);
            A.due("4 of DEEP PUMPS: AS ABOVE, and VALUE / 100", shed, shed.ask(6, CHARGE, 3), 30 + row[2]);
            A.due("1 of TOOLS: RATE times d", shed, shed.ask(5, CHARGE, 3), 30);
        }
    }

    private static void quotientsOfDepositAreCut() {
        int[][] valueAndPremiums = {
            {0, 0, 9, 15}, {199, 0, 9, 15}, {200, 3, 9, 18}, {399, 3, 9, 18},
            {400, 6, 12, 18}, {599, 6, 12, 18}, {600, 9, 12, 21},
        };
        for (int[] row : valueAndPremiums) {
            CountedShed shed = Sheds.oneOfEach(10, row[0]);
            A.due("41: d times (the tool's own DEPOSIT / 100)", shed, shed.ask(2, PREMIUM, 3), row[1]);
            A.due("42: its own CHECK and its own DEPOSIT / 200", shed, shed.ask(3, PREMIUM, 3), row[2]);
            A.due("42: its own CHECK and its own DEPOSIT / 200", shed, shed.ask(4, PREMIUM, 3), row[3]);
        }
    }

    private static void depositOfPoweredOnesAndBelow() {
        String s = "DEPOSIT, of POWERED ones and below";
        A.refusedWithEmptyTrace(s, Sheds::busy, NO, x -> x.ask(Sheds.number(0, Sheds.IN), DEPOSIT, 0));
        CountedShed shed = Sheds.oneOfEach(10, 2000);
        for (int kind = 1; kind <= 6; kind++) {
            A.due(s, shed, shed.ask(kind, DEPOSIT, 0), kind == 4 ? 1500 : 1000);
        }
    }

    private static void premiumOfSawsAndBelow() {
        String s = "PREMIUM of d days, of INSURED ones (SAWS and below)";
        for (int kind : new int[] {0, 1, 5, 6}) {
            A.refusedWithEmptyTrace(s, Sheds::busy, NO, x -> x.ask(Sheds.number(kind, Sheds.IN), PREMIUM, 2));
        }
        CountedShed shed = Sheds.oneOfEach(10, 2000);
        A.due(s, shed, shed.ask(2, PREMIUM, 2), 2 * 10);
        A.due(s, shed, shed.ask(3, PREMIUM, 2), 2 * (3 + 5));
        A.due(s, shed, shed.ask(4, PREMIUM, 2), 2 * (3 + 7));
    }

    private static void dueOfServicedOnes() {
        String s = "DUE in d days, of SERVICED ones (BENCH SAWS, PUMPS and below)";
        for (int kind = 0; kind <= 2; kind++) {
            int tool = Sheds.number(kind, Sheds.IN);
            A.refusedWithEmptyTrace(s, Sheds::busy, NO, x -> x.ask(tool, DUE, 400));
        }
        CountedShed shed = Sheds.oneOfEach(10, 2000);
        for (int kind = 3; kind <= 6; kind++) {
            A.due(s, shed, shed.ask(kind, DUE, 400), 1);
        }
    }

    private static void dueAbove60WhenFresh() {
        CountedShed shed = Sheds.oneOfEach(10, 2000);
        for (int kind = 3; kind <= 6; kind++) {
            int last = kind >= 5 ? 20 : 60;
            dueInDays(shed, kind, last);
            A.due("43 of all: 1, if .. above 60, else 0", shed, shed.ask(kind, DUE, 0), 0);
        }
    }

    /** Of each row: kind, days that it was used, and the last d in which it is not DUE. */
    private static void dueAbove60WhenUsed() {
        int[][] rows = {
            {3, 1, 59}, {3, 59, 1}, {3, 60, 0}, {3, 61, -1},
            {4, 9, 51}, {4, 10, 49}, {4, 54, 1}, {4, 55, 0}, {4, 56, -1},
            {5, 19, 1}, {5, 20, 0}, {5, 21, -1}, {6, 1, 19}, {6, 16, 4}, {6, 20, 0}, {6, 21, -1},
        };
        for (int[] row : rows) {
            dueInDays(Sheds.usedFor(row[1], row[0], 10, 2000), 0, row[2]);
        }
    }

    private static void dueInDays(CountedShed shed, int tool, int lastNotDue) {
        String s = "1, if HOURS and the tool's own WEAR of d days are above 60, else 0";
        if (lastNotDue >= 0) {
            A.due(s, shed, shed.ask(tool, DUE, lastNotDue), 0);
        }
        A.due(s, shed, shed.ask(tool, DUE, lastNotDue + 1), 1);
    }

    private static void hiredIfIn() {
        String s = "TO HIRE one that is IN";
        for (int kind = 0; kind <= 6; kind++) {
            CountedShed shed = Sheds.busy();
            int in = Sheds.number(kind, Sheds.IN), out = Sheds.number(kind, Sheds.OUT);
            int broken = Sheds.number(kind, Sheds.BROKEN);
            int deposit = kind == 0 ? 0 : (2000 + 111 * in) / 2 + (kind == 4 ? 500 : 0);
            A.due(s, shed, shed.hire(in, 5), deposit);
            A.due(s, shed, shed.hire(in, 5), NO);
            for (int customer : Range.allowed(0, 5)) {
                A.refused(s, Sheds::busy, NO, x -> x.hire(out, customer));
                A.refused(s, Sheds::busy, NO, x -> x.hire(broken, customer));
            }
        }
    }

    /** Of each row: kind, and the most days that it may have been used; a deep pump is BROKEN ahead of being DUE. */
    private static void notHiredIfDueIn1Day() {
        String s = "a SERVICED one that is DUE in 1 day is not hired";
        int[][] rows = {{3, 59}, {4, 54}, {5, 19}};
        for (int[] row : rows) {
            CountedShed last = Sheds.usedFor(row[1], row[0], 10, 2000);
            A.due(s, last, last.hire(0, 1), row[0] == 4 ? 1500 : 1000);
            A.due(s, last, last.told(0, HOW), 1);
            CountedShed first = Sheds.usedFor(row[1] + 1, row[0], 10, 2000);
            A.due(s, first, first.told(0, HOW), 0);
            A.refused(s, () -> Sheds.usedFor(row[1] + 1, row[0], 10, 2000), NO, x -> x.hire(0, 1));
            first.service(0);
            A.due(s, first, first.hire(0, 1), row[0] == 4 ? 1500 : 1000);
        }
        CountedShed deep = Sheds.usedFor(16, 6, 10, 2000);
        A.due(s, deep, deep.hire(0, 1), 1000);
    }

    private static void unservicedOnesAreNeverDue() {
        String s = "a SERVICED one that is DUE in 1 day is not hired; others are";
        int[] mostUsed = {99, 89, 89};
        for (int kind = 0; kind <= 2; kind++) {
            CountedShed shed = Sheds.usedFor(mostUsed[kind], kind, 10, 2000);
            A.due(s, shed, shed.hire(0, 1), kind == 0 ? 0 : 1000);
            A.due(s, shed, shed.told(0, HOW), 1);
        }
    }

    private static void accountIsLessByTheDeposit() {
        String s = "The CUSTOMER's ACCOUNT is less by the DEPOSIT (of POWERED ones and below)";
        for (int kind = 0; kind <= 6; kind++) {
            for (int value : new int[] {0, 1, 2, 99999, 100000}) {
                int deposit = kind == 0 ? 0 : value / 2 + (kind == 4 ? 500 : 0);
                CountedShed shed = Sheds.oneTool(kind, 10, value);
                A.due(s, shed, shed.hire(0, 2), deposit);
                A.due(s, shed, shed.account(2), -deposit);
                A.due(s, shed, shed.account(1) + shed.account(3), 0);
                long price = shed.back(0);
                A.due("The ACCOUNT is more by the DEPOSIT, then less by the CHARGE", shed, shed.account(2), -price);
            }
        }
    }

    private static void atLeast1Day() {
        String s = "d is the days since then, at least 1";
        int[] priceOf1Day = {10, 10, 23, 21, 36, 10, 30};
        int[] priceOf2Days = {20, 20, 46, 42, 72, 20, 40};
        for (int kind = 0; kind <= 6; kind++) {
            int wear = kind >= 5 ? 3 : 1;
            dueBack(s, Sheds.outFor(0, kind, 10, 2000), priceOf1Day[kind], wear);
            dueBack(s, Sheds.outFor(1, kind, 10, 2000), priceOf1Day[kind], wear);
            dueBack(s, Sheds.outFor(2, kind, 10, 2000), priceOf2Days[kind], 2 * wear);
        }
    }

    private static void dueBack(String sentence, CountedShed shed, int price, int hours) {
        A.due(sentence, shed, shed.back(0), price);
        A.due(sentence, shed, shed.told(0, HOURS), hours);
        A.due(sentence, shed, shed.account(0), -price);
    }

    private static void atLeast1DaySinceALaterDay() {
        String s = "it is OUT since TODAY; d is the days since then, at least 1";
        for (int days = 0; days <= 2; days++) {
            CountedShed shed = Sheds.oneTool(0, 10, 2000);
            shed.day(50);
            shed.hire(0, 0);
            A.due(s, shed, shed.told(0, SINCE), 50);
            Sheds.pass(shed, days);
            dueBack(s, shed, days == 2 ? 20 : 10, days == 2 ? 2 : 1);
        }
    }

    private static void moreDaysThanCanBeAskedFor() {
        String s = "d is the days since then (0 .. 400 is told for ask alone)";
        dueBack(s, Sheds.outFor(400, 1, 10, 2000), 4000, 400);
        dueBack(s, Sheds.outFor(401, 1, 10, 2000), 4010, 401);
        CountedShed longest = Sheds.outFor(20000, 4, 1000, 100000);
        dueBack(s, longest, 40020035 + 20000 * (3 + 252), 20000);
        A.due(s, longest, longest.ask(0, CHECK, 0), 2003);
        A.due(s, longest, longest.service(0), 100250);
        CountedShed mostWorn = Sheds.outFor(20000, 6, 1000, 100000);
        dueBack(s, mostWorn, 20001000, 60000);
        A.due(s, mostWorn, mostWorn.service(0), 100 + 50 * 6005);
    }

    private static void brokenIfCheckIsAbove9() {
        String s = "Then it is BROKEN, if its CHECK is above 9, else IN";
        int[] breaksAt = {100, 90, 90, 70, 70, 30, 17};
        for (int kind = 0; kind <= 6; kind++) {
            CountedShed whole = Sheds.usedFor(breaksAt[kind] - 1, kind, 1, 0);
            A.due(s, whole, whole.ask(0, CHECK, 0), 9);
            dueHow(s, whole, 0);
            CountedShed broken = Sheds.usedFor(breaksAt[kind], kind, 1, 0);
            A.due(s, broken, broken.ask(0, CHECK, 0), 10);
            dueHow(s, broken, 2);
        }
    }

    private static void dueHow(String sentence, CountedShed shed, int how) {
        A.due(sentence, shed, shed.told(0, HOW), how);
        A.due(sentence, shed, shed.count(how), 1);
        A.due(sentence, shed, shed.told(0, CUSTOMER), NONE);
        A.due(sentence, shed, shed.told(0, SINCE), NONE);
    }

    private static void hoursAddUpUntilItBreaks() {
        String s = "then HOURS are more by the WEAR of d days";
        CountedShed shed = Sheds.usedFor(50, 0, 10, 0);
        int[][] hoursAndHow = {{49, 99, 0}, {1, 100, 2}};
        for (int[] row : hoursAndHow) {
            shed.hire(0, 0);
            Sheds.pass(shed, row[0]);
            shed.back(0);
            A.due(s, shed, shed.told(0, HOURS), row[1]);
            dueHow(s, shed, row[2]);
        }
    }

    private static void serviceOfOneThatIsNotOut() {
        String s = "SERVICE of one that is not OUT: HOURS are 0, it is IN";
        for (int kind = 0; kind <= 6; kind++) {
            int out = Sheds.number(kind, Sheds.OUT);
            A.refused(s, Sheds::busy, NO, x -> x.service(out));
            for (int how : new int[] {Sheds.IN, Sheds.BROKEN}) {
                CountedShed shed = Sheds.busy();
                int tool = Sheds.number(kind, how);
                int costs = shed.count(4), check = shed.ask(tool, CHECK, 0);
                A.due(s, shed, shed.service(tool), 100 + 50 * check);
                A.due(s, shed, shed.count(4), costs + 100 + 50 * check);
                A.due(s, shed, shed.told(tool, HOURS), 0);
                A.due(s, shed, shed.told(tool, HOW), 0);
            }
        }
    }

    private static void costByTheCheckAsItWasAhead() {
        String s = "the cost is 100, and 50 times its CHECK as it was ahead";
        int[][] costOfHours = {{1, 100}, {9, 100}, {10, 150}, {99, 550}, {100, 600}};
        for (int[] row : costOfHours) {
            CountedShed shed = Sheds.usedFor(row[0], 0, 10, 2000);
            long account = shed.account(0);
            A.due(s, shed, shed.service(0), row[1]);
            A.due(s, shed, shed.service(0), 100);
            A.due("(comes to COSTS)", shed, shed.count(4), row[1] + 100);
            A.due("(comes to COSTS)", shed, shed.account(0), account);
        }
    }

    private static void badIsAheadOfNoAndFull() {
        String s = "the first of these that fits: BAD, NO, FULL";
        A.refused(s, Sheds::full, BAD, x -> x.tool(7, 1, 0));
        A.refused(s, Sheds::full, BAD, x -> x.tool(0, 0, 0));
        A.refused(s, Sheds::full, BAD, x -> x.tool(0, 1, -1));
        A.refused(s, Sheds::busy, BAD, x -> x.ask(0, PREMIUM, 401));
        A.refused(s, Sheds::busy, BAD, x -> x.ask(0, DUE, -1));
        A.refused(s, Sheds::busy, BAD, x -> x.hire(Sheds.number(0, Sheds.OUT), 6));
        A.refused(s, Sheds::busy, BAD, x -> x.hire(Sheds.number(0, Sheds.BROKEN), -1));
        A.refused(s, () -> Sheds.usedFor(60, 3, 10, 2000), BAD, x -> x.hire(0, 6));
        A.refused(s, () -> Sheds.onDay(20000), BAD, x -> x.day(51));
        A.refused(s, () -> Sheds.onDay(20000), BAD, x -> x.day(0));
    }
}
