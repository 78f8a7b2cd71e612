import java.util.List;
import java.util.Random;

/** Promises 6 to 25, 31 and 32 over many trades, held against Plain (the same trades in every run). */
public final class PlainTest {
    private static final Check check = new Check("PlainTest");
    private static final Random random = new Random(20261116);
    private static PriceUpon x;
    private static Plain plain;
    private static int t;

    public static void main(String[] args) {
        for (int k = 0; k < 260; k++) {
            plain = someTrade(k % 26 == 25 ? 8 : 1 + random.nextInt(6), k % 3);
            t = plain.n == 8 ? k % 4 : k % 10;
            anew();
            facts();
            rests();
            anew();
            for (int round = 0; round < 3; round++) {
                someTerms(round);
                free();
                laws();
            }
            rests();
            anew();
            told();
            for (int h = 0; h < plain.n; h++) {
                anew();
                healed(h);
            }
            anew();
            duels();
        }
        check.end();
    }

    /** The trade in an object of its own, with its terms, so that none sees more than 512 calls. */
    private static void anew() {
        x = new PriceUpon();
        for (int k = 0; k <= t; k++) {
            Check.type(x, k < t ? "n 2;b 0 1;w 1 9 9" : plain.text());
            check.due("trade() of " + plain.text(), x.trade(), k);
        }
        tellTerms();
    }

    private static void tellTerms() {
        check.due("join", x.join(t, plain.joined), true);
        check.due("law", x.law(t, plain.cap, plain.alike), true);
        check.due("halve", x.halve(t, plain.halved), true);
    }

    private static Plain someTrade(int n, int kind) {
        Plain p = new Plain(n);
        int dear = kind == 0 ? 4 : kind == 1 ? 12 : 31;
        for (int h = 0; h < n; h++) {
            p.cost[h] = random.nextInt(4) == 0 ? 0 : random.nextInt(dear);
            p.other[h] = random.nextBoolean() ? 0 : random.nextInt(100);
            if (h > 0 && random.nextInt(6) != 0) {
                p.from[h] = random.nextInt(3) == 0 ? h - 1 : random.nextInt(h);
            }
        }
        int lots = random.nextInt(kind == 2 ? 9 : 15);
        for (int k = 0; k < lots; k++) {
            int h = random.nextInt(n);
            p.lots.add(new int[] {p.shop(h) ? h : n - 1, 1 + random.nextInt(40), 1 + random.nextInt(kind == 0 ? 4 : 30)});
        }
        while (p.text().length() > 300) {
            p.lots.remove(0);
        }
        return p;
    }

    private static void due(String call, long got, long want) {
        check.due(call + " of " + plain.text() + " joined " + plain.joined + " cap " + plain.cap + " alike "
                + plain.alike + " halved " + plain.halved, got, want);
    }

    private static void facts() {
        for (int h = 0; h < plain.n; h++) {
            due("house 0", x.house(t, h, 0), plain.cost[h]);
            due("house 1", x.house(t, h, 1), plain.from[h]);
            due("house 2", x.house(t, h, 2), plain.other[h]);
            due("house 3", x.house(t, h, 3), plain.clients(h).size());
            due("house 4", x.house(t, h, 4), plain.shop(h) ? plain.want(h, 0) : 0);
            int p = random.nextInt(42);
            due("want at " + p, x.want(t, h, p), plain.shop(h) ? plain.want(h, p) : -1);
        }
    }

    private static void someTerms(int round) {
        int joined = round == 0 ? 0 : random.nextInt(1 << plain.n);
        int cap = random.nextInt(3) == 0 ? 41 : random.nextInt(42);
        boolean alike = random.nextBoolean();
        boolean halved = random.nextInt(3) == 0;
        plain = plain.with(joined, cap, alike, halved);
        tellTerms();
    }

    private static void free() {
        for (int h = 0; h < plain.n; h++) {
            for (int k = 0; k < 3; k++) {
                int u = k < 2 ? random.nextInt(45) : random.nextInt(301);
                due("ask " + h + " " + u, x.ask(t, h, u), plain.shop(h) ? plain.askAt(h, u) : -1);
                due("take " + h + " " + u, x.take(t, h, u), plain.take(h, u));
            }
            due("outcome " + h + " 0", x.outcome(t, h, 0), plain.paid(h));
            due("outcome " + h + " 1", x.outcome(t, h, 1), plain.asked(h));
            due("outcome " + h + " 2", x.outcome(t, h, 2), plain.sold(h));
            due("outcome " + h + " 3", x.outcome(t, h, 3), plain.earns(h));
            due("rather " + h, x.rather(t, h), plain.from[h] < 0 || plain.isJoined(h) ? PriceUpon.HIDDEN : plain.rather(h));
        }
    }

    private static void laws() {
        int together = plain.together(plain.cap).allEarn();
        due("sum 0", x.sum(t, 0), plain.allEarn());
        due("sum 1", x.sum(t, 1), together);
        due("sum 2", x.sum(t, 2), together - plain.allEarn());
        due("sum 3", x.sum(t, 3), plain.saving());
        for (int h = -1; h < plain.n; h++) {
            due("gain " + h, x.gain(t, h), plain.gain(h));
        }
        for (int k = 0; k < 4; k++) {
            int h = random.nextInt(plain.n);
            int shop = random.nextInt(plain.n);
            int v = random.nextInt(31);
            due("passed " + h + " " + v + " " + shop, x.passed(t, h, v, shop),
                    plain.shop(shop) ? plain.passed(h, v, shop) : PriceUpon.HIDDEN);
        }
    }

    private static void told() {
        for (int k = 0; k < 6; k++) {
            // near what is free, so that few would do otherwise
            int shaken = k == 1 ? -1 : random.nextInt(plain.n);
            for (int h = 0; h < plain.n; h++) {
                boolean near = k > 0 && k < 4 && h != shaken;
                plain.pay[h] = near ? plain.free().paid(h) : random.nextInt(42);
                plain.ask[h] = near ? Math.max(0, plain.free().asked(h)) : random.nextInt(42);
                check.due("tell to pay", x.tell(t, h, false, plain.pay[h]), true);
                check.due("tell to ask", x.tell(t, h, true, plain.ask[h]), true);
            }
            for (int h = 0; h < plain.n; h++) {
                due("given " + h, x.given(t, h), plain.given(h));
            }
            due("doers", x.doers(t), plain.doers());
        }
    }

    private static void healed(int h) {
        due("fee " + h + " 0", x.fee(t, h, 0), plain.fee(h));
        due("fee " + h + " 1", x.fee(t, h, 1), plain.heals());
        if (!plain.shop(h) || plain.from[h] < 0) {
            due("parts of no such shop", x.parts(t, h, -1), -1);
            due("takings of no such shop", x.takings(t, h, 0), PriceUpon.HIDDEN);
            return;
        }
        List<Integer> pairs = plain.parts(h);
        due("parts " + h, x.parts(t, h, -1), pairs.size());
        due("parts past the end", x.parts(t, h, pairs.size()), -1);
        due("takings past the end", x.takings(t, h, pairs.size()), PriceUpon.HIDDEN);
        for (int k = 0; k < pairs.size(); k += 1 + random.nextInt(60)) {
            due("parts " + h + " " + k, x.parts(t, h, k), pairs.get(k));
            due("takings " + h + " " + k, x.takings(t, h, k), plain.takings(h, pairs.get(k)));
        }
    }

    private static void duels() {
        for (int k = 0; k < 6; k++) {
            int one = random.nextInt(plain.n);
            int two = random.nextInt(plain.n);
            int shop = random.nextInt(plain.n);
            int u = random.nextInt(k < 3 ? 8 : 42);
            int v = random.nextInt(2) == 0 ? u : random.nextInt(42);
            boolean shops = one != two && plain.shop(one) && plain.shop(two);
            boolean offers = one != two && one != shop && two != shop && plain.shop(shop);
            String rivals = "rivals " + one + " " + two + " " + u + " " + v;
            String makers = "makers " + one + " " + two + " " + shop;
            pairs(rivals, shops ? plain.rivals(one, two, u, v) : null, one, two, new int[] {u, v});
            pairs(makers, offers ? plain.makers(one, two, shop) : null, one, two, new int[] {shop});
        }
    }

    private static void pairs(String call, List<Integer> want, int one, int two, int[] rest) {
        int size = want == null ? -1 : want.size();
        due(call + " -1", duel(one, two, rest, -1), size);
        due(call + " past the end", duel(one, two, rest, Math.max(0, size)), -1);
        due(call + " -2", duel(one, two, rest, -2), -1);
        for (int i = 0; i < size; i += 1 + random.nextInt(Math.max(1, size / 8))) {
            due(call + " " + i, duel(one, two, rest, i), want.get(i));
        }
    }

    private static int duel(int one, int two, int[] rest, int i) {
        return rest.length == 2 ? x.rivals(t, one, two, rest[0], rest[1], i) : x.makers(t, one, two, rest[0], i);
    }

    private static void rests() {
        List<Integer> sets = plain.rests();
        due("rests -1", x.rests(t, -1), sets.size());
        for (int i = 0; i < sets.size(); i++) {
            due("rests " + i, x.rests(t, i), sets.get(i));
        }
        due("rests past the end", x.rests(t, sets.size()), -1);
    }
}
