import java.util.ArrayList;
import java.util.HashMap;
import java.util.List;
import java.util.Map;

/** The document's words once more, as plainly and slowly as they can be put: what PriceUpon is held against. */
final class Plain {
    int n;
    int[] cost;
    int[] from;
    int[] other;
    int[] pay;
    int[] ask;
    List<int[]> lots = new ArrayList<>();
    int joined = 0;
    int cap = 41;
    boolean alike = false;
    boolean halved = false;
    private Map<Integer, Integer> takes = new HashMap<>();
    private Map<Integer, Integer> gains = new HashMap<>();
    private Map<Integer, Integer> prices = new HashMap<>();

    Plain(int n) {
        this.n = n;
        cost = new int[n];
        from = new int[n];
        other = new int[n];
        pay = new int[n];
        ask = new int[n];
        java.util.Arrays.fill(from, -1);
    }

    Plain with(int joined, int cap, boolean alike, boolean halved) {
        Plain p = new Plain(n);
        p.cost = cost.clone();
        p.from = from;
        p.other = other;
        p.pay = pay;
        p.ask = ask;
        p.lots = lots;
        p.joined = joined;
        p.cap = cap;
        p.alike = alike;
        p.halved = halved;
        return p;
    }

    Plain free() {
        return with(0, 41, false, false);
    }

    Plain together(int cap) {
        return with((1 << n) - 1, cap, false, false);
    }

    boolean shop(int h) {
        return clients(h).isEmpty();
    }

    List<Integer> clients(int h) {
        List<Integer> all = new ArrayList<>();
        for (int b = 0; b < n; b++) {
            if (from[b] == h) {
                all.add(b);
            }
        }
        return all;
    }

    boolean isJoined(int h) {
        return from[h] >= 0 && (joined & 1 << h) != 0;
    }

    int want(int h, int price) {
        int all = 0;
        for (int[] lot : lots) {
            if (lot[0] == h && lot[1] >= price) {
                all += lot[2];
            }
        }
        return all;
    }

    int askAt(int h, int u) {
        int best = -1;
        for (int p = 0; p <= 41; p++) {
            if (p <= cap || p == 41) {
                if (best < 0 || (p - u) * want(h, p) > (best - u) * want(h, best)) {
                    best = p;
                }
            }
        }
        return best;
    }

    int take(int h, int u) {
        Integer known = takes.get(h * 100000 + u);
        if (known != null) {
            return known;
        }
        int all = 0;
        if (shop(h)) {
            all = want(h, askAt(h, u));
        } else {
            for (int b : clients(h)) {
                all += take(b, price(h, b, u) + cost[b]);
            }
        }
        takes.put(h * 100000 + u, all);
        return all;
    }

    int gainAt(int h, int u) {
        Integer known = gains.get(h * 100000 + u);
        if (known != null) {
            return known;
        }
        int all = 0;
        if (shop(h)) {
            int p = askAt(h, u);
            all = (p - u) * want(h, p);
        } else {
            for (int b : clients(h)) {
                int x = price(h, b, u);
                all += (x - u) * take(b, x + cost[b]);
            }
        }
        gains.put(h * 100000 + u, all);
        return all;
    }

    /** What a, with u, asks of b. */
    int price(int a, int b, int u) {
        if (isJoined(b)) {
            return u;
        }
        Integer known = prices.get(b * 100000 + u);
        if (known != null) {
            return known;
        }
        int x = halved ? halvedPrice(b, u) : openPrice(a, b, u);
        prices.put(b * 100000 + u, x);
        return x;
    }

    private int openPrice(int a, int b, int u) {
        int best = -1;
        long most = 0;
        for (int x = 0; x <= 41; x++) {
            long some = 0;
            for (int c : clients(a)) {
                if (c == b || alike && !isJoined(c)) {
                    some += (long) (x - u) * take(c, x + cost[c]);
                }
            }
            if (best < 0 || some > most) {
                best = x;
                most = some;
            }
        }
        return best;
    }

    private int halvedPrice(int b, int u) {
        int best = -1;
        long most = 0;
        for (int x = 0; x <= 41; x++) {
            long mine = (long) (x - u) * take(b, x + cost[b]);
            long theirs = gainAt(b, x + cost[b]);
            if (mine >= 0 && theirs >= 0 && (best < 0 || mine * theirs > most)) {
                best = x;
                most = mine * theirs;
            }
        }
        return best < 0 ? 41 : best;
    }

    int paid(int h) {
        return from[h] < 0 ? 0 : price(from[h], h, spent(from[h]));
    }

    int spent(int h) {
        return paid(h) + cost[h];
    }

    int asked(int h) {
        return shop(h) ? askAt(h, spent(h)) : -1;
    }

    int sold(int h) {
        return take(h, spent(h));
    }

    int earns(int h) {
        if (shop(h)) {
            return (asked(h) - spent(h)) * sold(h);
        }
        int all = 0;
        for (int b : clients(h)) {
            all += (paid(b) - spent(h)) * sold(b);
        }
        return all;
    }

    int allEarn() {
        int all = 0;
        for (int h = 0; h < n; h++) {
            all += earns(h);
        }
        return all;
    }

    int saving() {
        int all = 0;
        for (int[] lot : lots) {
            if (shop(lot[0]) && lot[1] >= asked(lot[0])) {
                all += lot[2] * (lot[1] - asked(lot[0]));
            }
        }
        return all;
    }

    int passed(int h, int v, int shop) {
        Plain dear = with(joined, cap, alike, halved);
        dear.cost[h] += v;
        return dear.asked(shop) - asked(shop);
    }

    int gain(int h) {
        Plain lawless = with(joined, 41, false, halved);
        return h < 0 ? saving() - lawless.saving() : earns(h) - lawless.earns(h);
    }

    int toldTake(int h) {
        if (shop(h)) {
            return want(h, ask[h]);
        }
        int all = 0;
        for (int b : clients(h)) {
            all += toldTake(b);
        }
        return all;
    }

    int given(int h) {
        int u = pay[h] + cost[h];
        if (shop(h)) {
            return (ask[h] - u) * want(h, ask[h]);
        }
        int all = 0;
        for (int b : clients(h)) {
            all += (pay[b] - u) * toldTake(b);
        }
        return all;
    }

    int doers() {
        Plain free = free();
        int bits = 0;
        for (int h = 0; h < n; h++) {
            int u = pay[h] + cost[h];
            for (int x = 0; x <= 41; x++) {
                if (shop(h) && (x - u) * want(h, x) > given(h)) {
                    bits |= 1 << h;
                }
                for (int b : clients(h)) {
                    if (x != pay[b] && (x - u) * free.take(b, x + cost[b]) > (pay[b] - u) * toldTake(b)) {
                        bits |= 1 << h;
                    }
                }
            }
        }
        return bits;
    }

    int pathCost(int h) {
        return cost[h] + (from[h] < 0 ? 0 : pathCost(from[h]));
    }

    boolean byWayOf(int h, int top) {
        return h == top || from[h] >= 0 && byWayOf(from[h], top);
    }

    int healedPrice(int shop) {
        return free().askAt(shop, pathCost(shop));
    }

    int fee(int house) {
        int all = 0;
        for (int h = 0; h < n; h++) {
            if (byWayOf(h, house)) {
                all -= other[h];
                if (shop(h)) {
                    all += (healedPrice(h) - pathCost(h)) * want(h, healedPrice(h));
                }
            }
        }
        return all;
    }

    int heals() {
        int all = 0;
        for (int h = 0; h < n; h++) {
            if (from[h] < 0) {
                all += fee(h);
            }
        }
        return all >= 0 ? 1 : 0;
    }

    List<Integer> parts(int shop) {
        List<Integer> all = new ArrayList<>();
        int[] wants = new int[42];
        for (int p = 0; p <= 41; p++) {
            wants[p] = want(shop, p);
        }
        int target = healedPrice(shop);
        for (int w = 0; w <= 40; w++) {
            for (int s = 0; s <= 99; s++) {
                int best = 0;
                for (int p = 1; p <= 41; p++) {
                    if (((100 - s) * p - 100 * (w + cost[shop])) * wants[p]
                            > ((100 - s) * best - 100 * (w + cost[shop])) * wants[best]) {
                        best = p;
                    }
                }
                if (best == target) {
                    all.add(100 * w + s);
                }
            }
        }
        return all;
    }

    int takings(int shop, int pair) {
        int price = healedPrice(shop);
        long has = (long) ((100 - pair % 100) * price - 100 * (pair / 100 + cost[shop])) * want(shop, price);
        long by = 100L * (price - pathCost(shop)) * want(shop, price);
        return by == 0 ? 0 : (int) (10000 * has / by);
    }

    private int rivalEarns(int me, int rival, int mine, int its, int u) {
        int sold = mine < its ? want(me, mine) + want(rival, mine) : mine == its ? want(me, mine) : 0;
        return (mine - u) * sold;
    }

    private int makerEarns(int me, int rival, int mine, int its, int shop) {
        boolean taken = mine < its || mine == its && me < rival;
        return taken ? (mine - cost[me]) * free().take(shop, mine + cost[shop]) : 0;
    }

    List<Integer> rivals(int one, int two, int u, int v) {
        int[][] first = new int[42][42];
        int[][] second = new int[42][42];
        for (int p = 0; p <= 41; p++) {
            for (int q = 0; q <= 41; q++) {
                first[p][q] = rivalEarns(one, two, p, q, u);
                second[p][q] = rivalEarns(two, one, q, p, v);
            }
        }
        return restsOf(first, second);
    }

    List<Integer> makers(int one, int two, int shop) {
        int[][] first = new int[42][42];
        int[][] second = new int[42][42];
        for (int p = 0; p <= 41; p++) {
            for (int q = 0; q <= 41; q++) {
                first[p][q] = makerEarns(one, two, p, q, shop);
                second[p][q] = makerEarns(two, one, q, p, shop);
            }
        }
        return restsOf(first, second);
    }

    private static List<Integer> restsOf(int[][] first, int[][] second) {
        List<Integer> all = new ArrayList<>();
        for (int p = 0; p <= 41; p++) {
            for (int q = 0; q <= 41; q++) {
                boolean rest = true;
                for (int o = 0; o <= 41; o++) {
                    rest &= first[o][q] <= first[p][q] && second[p][o] <= second[p][q];
                }
                if (rest) {
                    all.add(64 * p + q);
                }
            }
        }
        return all;
    }

    private boolean one(int a, int b, int joined) {
        return topOf(a, joined) == topOf(b, joined);
    }

    private int topOf(int h, int joined) {
        return from[h] >= 0 && (joined & 1 << h) != 0 ? topOf(from[h], joined) : h;
    }

    int rather(int h) {
        Plain then = with(joined | 1 << h, cap, alike, halved);
        int all = 0;
        for (int o = 0; o < n; o++) {
            if (one(o, h, joined) || one(o, from[h], joined)) {
                all += then.earns(o) - earns(o);
            }
        }
        return all;
    }

    List<Integer> rests() {
        List<Integer> all = new ArrayList<>();
        for (int set = 0; set < 1 << n; set++) {
            boolean rest = true;
            Plain now = with(set, cap, alike, halved);
            for (int h = 0; h < n && rest; h++) {
                if (from[h] < 0) {
                    rest = (set & 1 << h) == 0;
                }
            }
            for (int h = 0; h < n && rest; h++) {
                if (from[h] >= 0 && (set & 1 << h) == 0) {
                    rest = now.rather(h) <= 0;
                }
            }
            if (rest) {
                all.add(set);
            }
        }
        return all;
    }

    String text() {
        StringBuilder text = new StringBuilder("n " + n);
        for (int h = 0; h < n; h++) {
            if (from[h] >= 0) {
                text.append(";b ").append(from[h]).append(' ').append(h);
            }
            if (cost[h] != 0) {
                text.append(";c ").append(h).append(' ').append(cost[h]);
            }
            if (other[h] != 0) {
                text.append(";e ").append(h).append(' ').append(other[h]);
            }
        }
        for (int[] lot : lots) {
            text.append(";w ").append(lot[0]).append(' ').append(lot[1]).append(' ').append(lot[2]);
        }
        return text.toString();
    }
}
