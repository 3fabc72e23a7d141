/** The document once more, told as tables of bodies instead of classes, to check the class against. */
final class ShedModel {
    private static final int[] ABOVE = {-1, 0, 1, 2, 3, 1, 5};
    /** The body told for a kind (column), by what is asked (row); 0: none is told for it. */
    private static final int[][] TOLD = {
        {1, 0, 2, 0, 3, 0, 4},
        {11, 0, 0, 0, 12, 13, 0},
        {20, 21, 0, 22, 0, 0, 23},
        {0, 31, 0, 0, 32, 0, 0},
        {0, 0, 41, 42, 0, 0, 0},
        {0, 0, 0, 43, 0, 43, 0},
    };

    private final int[] kind = new int[24], rate = new int[24], value = new int[24], hours = new int[24];
    private final int[] how = new int[24], customer = new int[24], since = new int[24];
    private final long[] accounts = new long[6];
    private StringBuilder bodies = new StringBuilder();
    private String latest = "";
    private int size, today, costs, hires;

    private int kindThatTells(int what, int from) {
        int k = from;
        while (k >= 0 && TOLD[what][k] == 0) {
            k = ABOVE[k];
        }
        return k;
    }

    private int own(int t, int what, int d) {
        return answer(t, what, d, kind[t]);
    }

    private int ownOrZero(int t, int what, int d) {
        return kindThatTells(what, kind[t]) < 0 ? 0 : own(t, what, d);
    }

    private int answer(int t, int what, int d, int from) {
        int k = kindThatTells(what, from);
        int body = TOLD[what][k];
        bodies.append((char) body);
        switch (body) {
            case 1: return rate[t] * d;
            case 2: return answer(t, what, d, ABOVE[k]) + 3 * d;
            case 3: return 2 * answer(t, what, d, ABOVE[k]) - (d > 7 ? 5 * (d - 7) : 0);
            case 4: return answer(t, what, d, ABOVE[k]) + value[t] / 100;
            case 11: return d;
            case 12: return answer(t, what, d, ABOVE[k]) + hours[t] / 10;
            case 13: return 3 * answer(t, what, d, ABOVE[k]);
            case 20: return hours[t] / 10;
            case 21: return answer(t, what, d, ABOVE[k]) + 1;
            case 22: return answer(t, what, d, ABOVE[k]) + 2;
            case 23: return answer(t, what, d, ABOVE[k]) + 4;
            case 31: return value[t] / 2;
            case 32: return answer(t, what, d, ABOVE[k]) + 500;
            case 41: return d * (own(t, 3, d) / 100);
            case 42: return d * (own(t, 2, d) + own(t, 3, d) / 200);
            case 43: return hours[t] + own(t, 1, d) > 60 ? 1 : 0;
            default: throw new IllegalStateException("no body " + body);
        }
    }

    private static boolean within(int n, int least, int most) {
        return least <= n && n <= most;
    }

    private boolean noTool(int t) {
        return !within(t, 0, size - 1);
    }

    int tool(int k, int r, int v) {
        if (!within(k, 0, 6) || !within(r, 1, 1000) || !within(v, 0, 100000)) return HireShed.BAD;
        if (size == 24) return HireShed.FULL;
        kind[size] = k;
        rate[size] = r;
        value[size] = v;
        return size++;
    }

    int ask(int t, int what, int d) {
        if (noTool(t) || !within(what, 0, 5) || !within(d, 0, 400)) return HireShed.BAD;
        bodies = new StringBuilder();
        int answer = kindThatTells(what, kind[t]) < 0 ? HireShed.NO : own(t, what, d);
        latest = bodies.toString();
        return answer;
    }

    int trace(int i) {
        return within(i, 0, latest.length() - 1) ? latest.charAt(i) : HireShed.NONE;
    }

    int hire(int t, int c) {
        if (noTool(t) || !within(c, 0, 5)) return HireShed.BAD;
        if (how[t] != 0 || ownOrZero(t, 5, 1) == 1) return HireShed.NO;
        int deposit = ownOrZero(t, 3, 0);
        accounts[c] -= deposit;
        how[t] = 1;
        customer[t] = c;
        since[t] = today;
        hires++;
        return deposit;
    }

    int back(int t) {
        if (noTool(t)) return HireShed.BAD;
        if (how[t] != 1) return HireShed.NO;
        int d = today == since[t] ? 1 : today - since[t];
        int price = own(t, 0, d) + ownOrZero(t, 4, d);
        accounts[customer[t]] += ownOrZero(t, 3, 0) - price;
        hours[t] += own(t, 1, d);
        how[t] = own(t, 2, 0) > 9 ? 2 : 0;
        return price;
    }

    int service(int t) {
        if (noTool(t)) return HireShed.BAD;
        if (how[t] == 1) return HireShed.NO;
        int cost = 100 + 50 * own(t, 2, 0);
        costs += cost;
        hours[t] = 0;
        how[t] = 0;
        return cost;
    }

    int day(int n) {
        if (!within(n, 1, 50)) return HireShed.BAD;
        if (today + n > 20000) return HireShed.FULL;
        return today += n;
    }

    long account(int c) {
        return within(c, 0, 5) ? accounts[c] : 0;
    }

    int told(int t, int what) {
        if (noTool(t) || !within(what, 0, 6)) return HireShed.BAD;
        boolean out = how[t] == 1;
        int[] all = {
            kind[t], hours[t], how[t], out ? customer[t] : HireShed.NONE, out ? since[t] : HireShed.NONE,
            kindThatTells(4, kind[t]) < 0 ? 0 : 1, kindThatTells(5, kind[t]) < 0 ? 0 : 1,
        };
        return all[what];
    }

    int count(int what) {
        if (!within(what, 0, 5)) return HireShed.BAD;
        int[] all = {0, 0, 0, today, costs, hires};
        for (int t = 0; t < size; t++) {
            all[how[t]]++;
        }
        return all[what];
    }
}
