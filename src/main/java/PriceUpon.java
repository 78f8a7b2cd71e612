import java.util.NoSuchElementException;

/** Trades read from texts, and the prices that their houses ask of one another and of their buyers. */
public final class PriceUpon {
    public static final int NONE = -1;
    public static final int HIDDEN = -100000000;

    private static final int TOP = 41;
    private static final int PRICES = TOP + 1;
    private static final int MOST_HOUSES = 8;
    // house 0 never buys, so sets of houses that buy are even numbers
    private static final int MOST_SETS = 1 << MOST_HOUSES - 1;
    private static final int MOST_TRADES = 10;
    private static final int MOST_BYTES = 300;
    private static final int MOST_LOTS = 20;
    private static final int MOST_COST = 30;
    private static final int MOST_SPENT = 300;
    private static final int MOST_CHANCES = 12;
    private static final int MOST_WANTED = 60;
    private static final int MOST_WEIGHT = 99;
    private static final int HUNDRED = 100;
    private static final int PARTED_PRICES = 41;
    private static final int PAIR = 64;

    private final Tape tape = new Tape();
    private final Trade[] trades = new Trade[MOST_TRADES];
    private int tradeCount = 0;
    private Trade draft = new Trade();
    private final Terms triedTerms = new Terms();
    private final Market asIs = new Market();
    private final Market tried = new Market();
    private final Hand hand = new Hand();
    private final Healing healing = new Healing();
    private final Duel duel = new Duel();
    private final Joining joining = new Joining();
    private final Chances chances = new Chances();

    public PriceUpon() {
    }

    public int feed(int a, int b, int c, int d, int e) {
        int more = Tape.bytesIn(a) + Tape.bytesIn(b) + Tape.bytesIn(c) + Tape.bytesIn(d) + Tape.bytesIn(e);
        if (tape.length + more > MOST_BYTES) {
            return NONE;
        }
        tape.put(a);
        tape.put(b);
        tape.put(c);
        tape.put(d);
        tape.put(e);
        return tape.length;
    }

    public boolean end(int n) {
        if (n < 0 || n > tape.length) {
            return false;
        }
        tape.length = n;
        return true;
    }

    public int fault() {
        return tape.read(draft);
    }

    public int trade() {
        if (tradeCount >= MOST_TRADES || tape.read(draft) != NONE) {
            return NONE;
        }
        trades[tradeCount] = draft;
        draft = new Trade();
        tape.length = 0;
        tradeCount++;
        return tradeCount - 1;
    }

    public int house(int trade, int house, int what) throws NoSuchElementException {
        Trade t = find(trade);
        if (t == null || !t.holds(house) || what < 0 || what > 4) {
            throw new NoSuchElementException("no such trade, house or question");
        }
        switch (what) {
            case 0:
                return t.cost[house];
            case 1:
                return t.source[house];
            case 2:
                return t.elsewhere[house];
            case 3:
                return t.clients[house];
            default:
                return t.isShop(house) ? t.wants[house][0] : 0;
        }
    }

    public int houses(int trade) {
        Trade t = find(trade);
        return t == null ? NONE : t.size;
    }

    public int want(int trade, int house, int price) {
        Trade t = find(trade);
        if (t == null || !t.isShop(house) || !isPrice(price)) {
            return NONE;
        }
        return t.wants[house][price];
    }

    public boolean join(int trade, int houses) {
        Trade t = find(trade);
        if (t == null || houses < 0 || houses > t.allHouses()) {
            return false;
        }
        t.terms.joined = houses;
        return true;
    }

    public boolean law(int trade, int cap, boolean alike) {
        Trade t = find(trade);
        if (t == null || !isPrice(cap)) {
            return false;
        }
        t.terms.cap = cap;
        t.terms.alike = alike;
        t.restKnown = false;
        return true;
    }

    public boolean halve(int trade, boolean is) {
        Trade t = find(trade);
        if (t == null) {
            return false;
        }
        t.terms.halved = is;
        t.restKnown = false;
        return true;
    }

    public int ask(int trade, int house, int u) {
        Trade t = find(trade);
        if (t == null || !t.isShop(house) || u < 0 || u > MOST_SPENT) {
            return NONE;
        }
        return bestPrice(t.wants[house], t.terms.cap, u);
    }

    public int take(int trade, int house, int u) {
        Trade t = find(trade);
        if (t == null || !t.holds(house) || u < 0 || u > MOST_SPENT) {
            return NONE;
        }
        asIs.settle(t, t.terms);
        return asIs.takenAt(t, house, u);
    }

    public int outcome(int trade, int house, int what) {
        Trade t = find(trade);
        if (t == null || !t.holds(house) || what < 0 || what > 3) {
            return HIDDEN;
        }
        asIs.settle(t, t.terms);
        switch (what) {
            case 0:
                return asIs.paid[house];
            case 1:
                return asIs.asked[house];
            case 2:
                return asIs.sold[house];
            default:
                return asIs.earned[house];
        }
    }

    public int sum(int trade, int what) {
        Trade t = find(trade);
        if (t == null || what < 0 || what > 3) {
            return HIDDEN;
        }
        asIs.settle(t, t.terms);
        if (what == 0) {
            return asIs.allEarned(t);
        }
        if (what == 3) {
            return asIs.saved(t);
        }
        settleTogether(t, t.terms.cap);
        return what == 1 ? tried.allEarned(t) : tried.allEarned(t) - asIs.allEarned(t);
    }

    public int passed(int trade, int house, int v, int shop) {
        Trade t = find(trade);
        if (t == null || !t.holds(house) || !t.isShop(shop) || v < 0 || v > MOST_COST) {
            return HIDDEN;
        }
        asIs.settle(t, t.terms);
        triedTerms.copy(t.terms);
        triedTerms.dearHouse = house;
        triedTerms.dearBy = v;
        tried.settle(t, triedTerms);
        return tried.asked[shop] - asIs.asked[shop];
    }

    public int gain(int trade, int house) {
        Trade t = find(trade);
        if (t == null || house != NONE && !t.holds(house)) {
            return HIDDEN;
        }
        asIs.settle(t, t.terms);
        triedTerms.copy(t.terms);
        triedTerms.cap = TOP;
        triedTerms.alike = false;
        tried.settle(t, triedTerms);
        if (house < 0) {
            return asIs.saved(t) - tried.saved(t);
        }
        return asIs.earned[house] - tried.earned[house];
    }

    public boolean tell(int trade, int house, boolean counter, int price) {
        Trade t = find(trade);
        if (t == null || !t.holds(house) || !isPrice(price)) {
            return false;
        }
        if (counter) {
            t.toldAsk[house] = price;
        } else {
            t.toldPay[house] = price;
        }
        return true;
    }

    public int given(int trade, int house) {
        Trade t = find(trade);
        if (t == null || !t.holds(house)) {
            return HIDDEN;
        }
        hand.follow(t);
        return hand.earnedBy(t, house);
    }

    public int doers(int trade) {
        Trade t = find(trade);
        if (t == null) {
            return NONE;
        }
        hand.follow(t);
        settleFree(t);
        return hand.wouldDiffer(t, tried);
    }

    public int fee(int trade, int house, int what) {
        Trade t = find(trade);
        if (t == null || !t.holds(house) || what < 0 || what > 1) {
            return HIDDEN;
        }
        settleTogether(t, TOP);
        if (what == 0) {
            return healing.mostFee(t, tried, house);
        }
        return healing.heals(t, tried) ? 1 : 0;
    }

    public int parts(int trade, int shop, int i) {
        Trade t = findParted(trade, shop);
        if (t == null) {
            return NONE;
        }
        settleTogether(t, TOP);
        healing.findPairs(t, shop, tried.asked[shop]);
        if (i == NONE) {
            return healing.pairCount;
        }
        return i < 0 || i >= healing.pairCount ? NONE : healing.pairs[i];
    }

    public int takings(int trade, int shop, int i) {
        Trade t = findParted(trade, shop);
        if (t == null) {
            return HIDDEN;
        }
        settleTogether(t, TOP);
        healing.findPairs(t, shop, tried.asked[shop]);
        if (i < 0 || i >= healing.pairCount) {
            return HIDDEN;
        }
        return healing.shareOf(t, shop, healing.pairs[i], tried);
    }

    public int rivals(int trade, int one, int other, int u, int v, int i) {
        Trade t = find(trade);
        if (t == null || !t.isShop(one) || !t.isShop(other) || one == other || !isPrice(u) || !isPrice(v)) {
            return NONE;
        }
        duel.setShops(t.wants[one], t.wants[other], u, v);
        return duel.restAt(i);
    }

    public int makers(int trade, int one, int other, int shop, int i) {
        Trade t = find(trade);
        if (t == null || !t.holds(one) || !t.holds(other) || !t.isShop(shop)) {
            return NONE;
        }
        if (one == other || one == shop || other == shop) {
            return NONE;
        }
        duel.setMakers(t, one, other, shop);
        return duel.restAt(i);
    }

    public int chance(int wanted, int weight) {
        if (wanted < 0 || wanted > MOST_WANTED || weight < 1 || weight > MOST_WEIGHT) {
            return NONE;
        }
        return chances.more(wanted, weight);
    }

    public int clear() {
        return chances.forget();
    }

    public int expects(int price, int cost, int left, int q) {
        if (chances.size == 0 || !isPrice(price) || !isPrice(cost) || !isPrice(left) || q < 0 || q > MOST_WANTED) {
            return HIDDEN;
        }
        return chances.expected(price, cost, left, q);
    }

    public int stock(int price, int cost, int left) {
        if (chances.size == 0 || !isPrice(price) || !isPrice(cost) || !isPrice(left)) {
            return NONE;
        }
        return chances.bestStock(price, cost, left);
    }

    public int seller(int price, int cost, int m, int what) {
        if (chances.size == 0 || !isPrice(price) || !isPrice(cost) || !isPrice(m) || what < 0 || what > 1) {
            return HIDDEN;
        }
        int back = chances.bestBack(price, cost, m);
        return what == 0 ? back : chances.sellerExpects(price, cost, m, back);
    }

    public int rather(int trade, int house) {
        Trade t = find(trade);
        if (t == null || !t.holds(house) || t.source[house] == NONE || t.terms.joins(house)) {
            return HIDDEN;
        }
        asIs.settle(t, t.terms);
        triedTerms.copy(t.terms);
        triedTerms.joined = t.terms.joined | 1 << house;
        tried.settle(t, triedTerms);
        return joining.better(t, triedTerms.joined, house, asIs.earned, tried.earned);
    }

    public int rests(int trade, int i) {
        Trade t = find(trade);
        if (t == null) {
            return NONE;
        }
        if (!t.restKnown) {
            triedTerms.copy(t.terms);
            joining.findRests(t, triedTerms, tried);
        }
        if (i == NONE) {
            return t.restCount;
        }
        return i < 0 || i >= t.restCount ? NONE : t.rest[i];
    }

    public int count(int what) {
        switch (what) {
            case 0:
                return tradeCount;
            case 1:
                return chances.size;
            case 2:
                return tape.length;
            default:
                return NONE;
        }
    }

    private Trade find(int trade) {
        return trade < 0 || trade >= tradeCount ? null : trades[trade];
    }

    private Trade findParted(int trade, int shop) {
        Trade t = find(trade);
        return t == null || !t.isShop(shop) || t.source[shop] == NONE ? null : t;
    }

    private void settleTogether(Trade t, int cap) {
        triedTerms.reset();
        triedTerms.joined = t.allHouses();
        triedTerms.cap = cap;
        tried.settle(t, triedTerms);
    }

    private void settleFree(Trade t) {
        triedTerms.reset();
        tried.settle(t, triedTerms);
    }

    private static boolean isPrice(int price) {
        return price >= 0 && price <= TOP;
    }

    /** From a u of TOP on nothing can be sold at a gain, so one row of a table serves them all. */
    private static int row(int u) {
        return u < 0 ? 0 : u > TOP ? TOP : u;
    }

    private static int bestPrice(int[] wants, int cap, int u) {
        int best = TOP;
        int most = 0;
        for (int p = TOP; p >= 0; p--) {
            int gained = (p - u) * wants[p];
            // downwards, with "no less", so that of several the lowest stays
            if ((p <= cap || p == TOP) && gained >= most) {
                most = gained;
                best = p;
            }
        }
        return best;
    }

    /** What stands in the way of free prices, and a cost that is tried higher than the text tells. */
    private static final class Terms {
        int joined = 0;
        int cap = TOP;
        boolean alike = false;
        boolean halved = false;
        int dearHouse = NONE;
        int dearBy = 0;

        void reset() {
            joined = 0;
            cap = TOP;
            alike = false;
            halved = false;
            dearHouse = NONE;
            dearBy = 0;
        }

        void copy(Terms that) {
            joined = that.joined;
            cap = that.cap;
            alike = that.alike;
            halved = that.halved;
            dearHouse = that.dearHouse;
            dearBy = that.dearBy;
        }

        boolean same(Terms that) {
            return joined == that.joined && sameButJoined(that);
        }

        boolean sameButJoined(Terms that) {
            return cap == that.cap && alike == that.alike && halved == that.halved
                    && dearHouse == that.dearHouse && dearBy == that.dearBy;
        }

        boolean joins(int house) {
            return (joined >> house & 1) != 0;
        }
    }

    /** A trade as its text tells it, with its terms, its told prices and the sets at rest once they are found. */
    private static final class Trade {
        int size = 0;
        int lots = 0;
        final int[] cost = new int[MOST_HOUSES];
        final int[] source = new int[MOST_HOUSES];
        final int[] elsewhere = new int[MOST_HOUSES];
        final int[] clients = new int[MOST_HOUSES];
        final int[][] wants = new int[MOST_HOUSES][PRICES];
        final Terms terms = new Terms();
        final int[] toldPay = new int[MOST_HOUSES];
        final int[] toldAsk = new int[MOST_HOUSES];
        final int[] rest = new int[MOST_SETS];
        int restCount = 0;
        boolean restKnown = false;

        void empty() {
            size = 0;
            lots = 0;
            for (int h = 0; h < MOST_HOUSES; h++) {
                cost[h] = 0;
                source[h] = NONE;
                elsewhere[h] = 0;
                clients[h] = 0;
                for (int p = 0; p < PRICES; p++) {
                    wants[h][p] = 0;
                }
            }
        }

        void addLot(int house, int most, int buyers) {
            lots++;
            for (int p = 0; p <= most && p < PRICES; p++) {
                wants[house][p] += buyers;
            }
        }

        void addSource(int from, int to) {
            source[to] = from;
            clients[from]++;
        }

        boolean holds(int house) {
            return house >= 0 && house < size;
        }

        boolean isShop(int house) {
            return holds(house) && clients[house] == 0;
        }

        int allHouses() {
            return (1 << size) - 1;
        }

        /** Whether house is top or buys by way of it; a source is always lower, so downwards is enough. */
        boolean isBelow(int house, int top) {
            int h = house;
            for (int step = 0; step < MOST_HOUSES && h > top; step++) {
                h = source[h];
            }
            return h == top;
        }
    }

    /** The bytes that came and are no trade yet, and how they are read. */
    private static final class Tape {
        private final int[] bytes = new int[MOST_BYTES];
        int length = 0;
        private int at = 0;
        private int wrong = NONE;

        static int bytesIn(int number) {
            int some = 0;
            for (int shift = 24; shift >= 0; shift -= 8) {
                if ((number >> shift & 255) != 0) {
                    some++;
                }
            }
            return some;
        }

        void put(int number) {
            for (int shift = 24; shift >= 0; shift -= 8) {
                int sign = number >> shift & 255;
                if (sign != 0 && length < MOST_BYTES) {
                    bytes[length] = sign;
                    length++;
                }
            }
        }

        int read(Trade into) {
            at = 0;
            wrong = NONE;
            into.empty();
            // a statement has at least one byte, so there are never more of them than bytes
            for (int statement = 0; statement <= MOST_BYTES; statement++) {
                readStatement(into, statement == 0);
                skipBlanks();
                if (wrong != NONE || at >= length) {
                    return wrong;
                }
                if (bytes[at] != ';') {
                    return at;
                }
                at++;
            }
            return wrong;
        }

        private void readStatement(Trade into, boolean first) {
            skipBlanks();
            if (at >= length) {
                wrong = length;
                return;
            }
            int letter = bytes[at];
            if (first != (letter == 'n')) {
                wrong = at;
                return;
            }
            switch (letter) {
                case 'n':
                    at++;
                    into.size = readNumber(1, MOST_HOUSES);
                    return;
                case 'c':
                    at++;
                    readCost(into);
                    return;
                case 'b':
                    at++;
                    readSource(into);
                    return;
                case 'w':
                    readLot(into);
                    return;
                case 'e':
                    at++;
                    readElse(into);
                    return;
                default:
                    wrong = at;
            }
        }

        private void readCost(Trade into) {
            int house = readNumber(0, into.size - 1);
            int cost = readNumber(0, MOST_COST);
            if (wrong == NONE) {
                into.cost[house] = cost;
            }
        }

        private void readSource(Trade into) {
            int from = readNumber(0, into.size - 1);
            int to = readNumber(from + 1, into.size - 1);
            if (wrong != NONE) {
                return;
            }
            if (into.source[to] != NONE) {
                wrong = at - 1;
                return;
            }
            into.addSource(from, to);
        }

        private void readLot(Trade into) {
            if (into.lots >= MOST_LOTS) {
                wrong = at;
                return;
            }
            at++;
            int house = readNumber(0, into.size - 1);
            int most = readNumber(1, TOP - 1);
            int buyers = readNumber(1, 30);
            if (wrong == NONE) {
                into.addLot(house, most, buyers);
            }
        }

        private void readElse(Trade into) {
            int house = readNumber(0, into.size - 1);
            int value = readNumber(0, 99);
            if (wrong == NONE) {
                into.elsewhere[house] = value;
            }
        }

        /** A number with its blanks; after a fault it reads nothing more, so that the first fault stays. */
        private int readNumber(int low, int high) {
            if (wrong != NONE) {
                return 0;
            }
            if (at < length && bytes[at] != ' ') {
                wrong = at;
                return 0;
            }
            skipBlanks();
            if (!isDigit()) {
                wrong = at;
                return 0;
            }
            int value = bytes[at] - '0';
            at++;
            if (isDigit()) {
                value = value * 10 + bytes[at] - '0';
                at++;
            }
            if (value < low || value > high) {
                wrong = at - 1;
                return 0;
            }
            return value;
        }

        private boolean isDigit() {
            return at < length && bytes[at] >= '0' && bytes[at] <= '9';
        }

        private void skipBlanks() {
            while (at < length && bytes[at] == ' ') {
                at++;
            }
        }
    }

    /** What each house of a trade would do at each u under some terms, and what comes of it. */
    private static final class Market {
        private Trade settled = null;
        private final Terms terms = new Terms();
        private final int[] cost = new int[MOST_HOUSES];
        private final int[][] takes = new int[MOST_HOUSES][PRICES];
        private final int[][] gains = new int[MOST_HOUSES][PRICES];
        private final int[][] asks = new int[MOST_HOUSES][PRICES];
        // what a house pays, by the u of its source
        private final int[][] pays = new int[MOST_HOUSES][PRICES];
        final int[] paid = new int[MOST_HOUSES];
        final int[] spent = new int[MOST_HOUSES];
        final int[] asked = new int[MOST_HOUSES];
        final int[] sold = new int[MOST_HOUSES];
        final int[] earned = new int[MOST_HOUSES];

        /** A text never changes once it is a trade, so only what other terms can change is reckoned anew. */
        void settle(Trade t, Terms wanted) {
            if (settled == t && terms.same(wanted)) {
                return;
            }
            int stale = lastStale(t, wanted);
            settled = t;
            terms.copy(wanted);
            for (int h = 0; h < t.size; h++) {
                cost[h] = t.cost[h] + (h == terms.dearHouse ? terms.dearBy : 0);
            }
            // who buys has the higher number, so what clients would do is known before their source asks
            for (int h = stale; h >= 0; h--) {
                int last = lastRow(t, h);
                for (int u = row(cost[h]); u <= last; u++) {
                    reckon(t, h, u);
                }
            }
            for (int h = 0; h < t.size; h++) {
                trace(t, h);
            }
            for (int h = 0; h < t.size; h++) {
                earned[h] = earnedBy(t, h);
            }
        }

        /** Whether a house is joined matters to those it buys from, all lower, and not to its own rows. */
        private int lastStale(Trade t, Terms wanted) {
            if (settled != t || !terms.sameButJoined(wanted)) {
                return t.size - 1;
            }
            int last = t.size - 1;
            while (last >= 0 && terms.joins(last) == wanted.joins(last)) {
                last--;
            }
            return last - 1;
        }

        /** No u is below a house's own cost, and a maker's is that cost alone: other rows are not needed. */
        private int lastRow(Trade t, int h) {
            return t.source[h] == NONE ? row(cost[h]) : TOP;
        }

        private void reckon(Trade t, int h, int u) {
            if (t.isShop(h)) {
                int price = bestPrice(t.wants[h], terms.cap, u);
                asks[h][u] = price;
                takes[h][u] = t.wants[h][price];
                gains[h][u] = (price - u) * t.wants[h][price];
                return;
            }
            int common = terms.alike && !terms.halved ? commonPrice(t, h, u) : NONE;
            int taken = 0;
            int gained = 0;
            for (int b = h + 1; b < t.size; b++) {
                if (t.source[b] == h) {
                    int x = terms.joins(b) ? u : terms.halved ? halvedPrice(b, u) : common == NONE ? ownPrice(b, u) : common;
                    pays[b][u] = x;
                    taken += takesAt(b, x);
                    gained += (x - u) * takesAt(b, x);
                }
            }
            takes[h][u] = taken;
            gains[h][u] = gained;
        }

        private int ownPrice(int b, int u) {
            int best = 0;
            int most = -u * takesAt(b, 0);
            for (int x = 1; x <= TOP; x++) {
                int gained = (x - u) * takesAt(b, x);
                if (gained > most) {
                    most = gained;
                    best = x;
                }
            }
            return best;
        }

        private int commonPrice(Trade t, int a, int u) {
            int best = TOP;
            int most = 0;
            for (int x = TOP; x >= 0; x--) {
                int taken = 0;
                for (int b = a + 1; b < t.size; b++) {
                    if (t.source[b] == a && !terms.joins(b)) {
                        taken += takesAt(b, x);
                    }
                }
                if (x == TOP || (x - u) * taken >= most) {
                    most = (x - u) * taken;
                    best = x;
                }
            }
            return best;
        }

        private int halvedPrice(int b, int u) {
            int best = TOP;
            int most = -1;
            for (int x = 0; x <= TOP; x++) {
                int mine = (x - u) * takesAt(b, x);
                int theirs = gains[b][row(x + cost[b])];
                // at most 41 times 600 each, so the product stays far below the highest int
                if (mine >= 0 && theirs >= 0 && mine * theirs > most) {
                    most = mine * theirs;
                    best = x;
                }
            }
            return best;
        }

        /** What a house takes that pays so much; only of houses that buy, whose rows are all known. */
        int takesAt(int house, int pay) {
            return takes[house][row(pay + cost[house])];
        }

        /** What a house takes at any u, a maker's too. */
        int takenAt(Trade t, int house, int u) {
            reckon(t, house, row(u));
            return takes[house][row(u)];
        }

        private void trace(Trade t, int h) {
            int from = t.source[h];
            if (from < 0) {
                paid[h] = 0;
            } else {
                paid[h] = terms.joins(h) ? spent[from] : pays[h][row(spent[from])];
            }
            spent[h] = paid[h] + cost[h];
            asked[h] = t.isShop(h) ? asks[h][row(spent[h])] : NONE;
            sold[h] = takes[h][row(spent[h])];
        }

        private int earnedBy(Trade t, int h) {
            if (t.isShop(h)) {
                return (asked[h] - spent[h]) * sold[h];
            }
            int gained = 0;
            for (int b = h + 1; b < t.size; b++) {
                if (t.source[b] == h) {
                    gained += (paid[b] - spent[h]) * sold[b];
                }
            }
            return gained;
        }

        int allEarned(Trade t) {
            int all = 0;
            for (int h = 0; h < t.size; h++) {
                all += earned[h];
            }
            return all;
        }

        /** Who pays up to P saves one for each price above that asked and up to P: so wants above it are summed. */
        int saved(Trade t) {
            int all = 0;
            for (int h = 0; h < t.size; h++) {
                if (t.isShop(h)) {
                    for (int p = asked[h] + 1; p <= TOP; p++) {
                        all += t.wants[h][p];
                    }
                }
            }
            return all;
        }
    }

    /** What comes of prices told by hand. */
    private static final class Hand {
        private final int[] taken = new int[MOST_HOUSES];

        void follow(Trade t) {
            for (int h = 0; h < t.size; h++) {
                taken[h] = t.isShop(h) ? t.wants[h][t.toldAsk[h]] : 0;
            }
            for (int h = t.size - 1; h >= 0; h--) {
                int from = t.source[h];
                if (from >= 0) {
                    taken[from] += taken[h];
                }
            }
        }

        int earnedBy(Trade t, int h) {
            if (t.isShop(h)) {
                return (t.toldAsk[h] - spentBy(t, h)) * taken[h];
            }
            int gained = 0;
            for (int b = h + 1; b < t.size; b++) {
                if (t.source[b] == h) {
                    gained += earnedFrom(t, h, b);
                }
            }
            return gained;
        }

        private int spentBy(Trade t, int h) {
            return t.toldPay[h] + t.cost[h];
        }

        private int earnedFrom(Trade t, int h, int b) {
            return (t.toldPay[b] - spentBy(t, h)) * taken[b];
        }

        int wouldDiffer(Trade t, Market free) {
            int bits = 0;
            for (int h = 0; h < t.size; h++) {
                if (t.isShop(h) ? shopWould(t, h) : anyPriceWould(t, free, h)) {
                    bits |= 1 << h;
                }
            }
            return bits;
        }

        private boolean shopWould(Trade t, int h) {
            int u = spentBy(t, h);
            int best = bestPrice(t.wants[h], TOP, u);
            return (best - u) * t.wants[h][best] > earnedBy(t, h);
        }

        private boolean anyPriceWould(Trade t, Market free, int h) {
            for (int b = h + 1; b < t.size; b++) {
                if (t.source[b] == h && priceWould(t, free, h, b)) {
                    return true;
                }
            }
            return false;
        }

        private boolean priceWould(Trade t, Market free, int h, int b) {
            int u = spentBy(t, h);
            for (int x = 0; x <= TOP; x++) {
                // at the told price itself b takes what it is told, not what it would
                if (x != t.toldPay[b] && (x - u) * free.takesAt(b, x) > earnedFrom(t, h, b)) {
                    return true;
                }
            }
            return false;
        }
    }

    /** Fees and parts by which shops ask what they would if all were one; the market given is that of all as one. */
    private static final class Healing {
        final int[] pairs = new int[PARTED_PRICES * HUNDRED];
        int pairCount = 0;
        private Trade pairedTrade = null;
        private int pairedShop = NONE;

        int mostFee(Trade t, Market together, int house) {
            int most = 0;
            for (int h = 0; h < t.size; h++) {
                if (t.isBelow(h, house)) {
                    most += together.earned[h] - t.elsewhere[h];
                }
            }
            return most;
        }

        boolean heals(Trade t, Market together) {
            int over = 0;
            for (int h = 0; h < t.size; h++) {
                over += together.earned[h] - t.elsewhere[h];
            }
            return over >= 0;
        }

        /** The pairs hang on the text alone, so those of the shop asked for last are kept. */
        void findPairs(Trade t, int shop, int price) {
            if (pairedTrade == t && pairedShop == shop) {
                return;
            }
            pairedTrade = t;
            pairedShop = shop;
            pairCount = 0;
            for (int w = 0; w < PARTED_PRICES; w++) {
                int spent = HUNDRED * (w + t.cost[shop]);
                for (int s = 0; s < HUNDRED; s++) {
                    if (isBest(t.wants[shop], price, HUNDRED - s, spent) && pairCount < pairs.length) {
                        pairs[pairCount] = HUNDRED * w + s;
                        pairCount++;
                    }
                }
            }
        }

        private boolean isBest(int[] wants, int price, int kept, int spent) {
            int most = (kept * price - spent) * wants[price];
            for (int p = 0; p <= TOP; p++) {
                int gained = (kept * p - spent) * wants[p];
                if (gained > most || gained == most && p < price) {
                    return false;
                }
            }
            return true;
        }

        int shareOf(Trade t, int shop, int pair, Market together) {
            int price = together.asked[shop];
            int wanted = together.sold[shop];
            int kept = HUNDRED - pair % HUNDRED;
            long has = (long) (kept * price - HUNDRED * (pair / HUNDRED + t.cost[shop])) * wanted;
            long whole = (long) HUNDRED * (price - together.spent[shop]) * wanted;
            return whole == 0 ? 0 : (int) (10000 * has / whole);
        }
    }

    /** Two that are rivals: who asks less has all, and at like prices each has what is told for it. */
    private static final class Duel {
        private final int[] aloneOne = new int[PRICES];
        private final int[] aloneOther = new int[PRICES];
        private final int[] likeOne = new int[PRICES];
        private final int[] likeOther = new int[PRICES];
        private final int[] bestOne = new int[PRICES];
        private final int[] bestOther = new int[PRICES];

        void setShops(int[] wantsOne, int[] wantsOther, int u, int v) {
            for (int p = 0; p <= TOP; p++) {
                int both = wantsOne[p] + wantsOther[p];
                aloneOne[p] = (p - u) * both;
                aloneOther[p] = (p - v) * both;
                likeOne[p] = (p - u) * wantsOne[p];
                likeOther[p] = (p - v) * wantsOther[p];
            }
        }

        void setMakers(Trade t, int one, int other, int shop) {
            int[] wants = t.wants[shop];
            for (int x = 0; x <= TOP; x++) {
                int taken = wants[bestPrice(wants, TOP, x + t.cost[shop])];
                aloneOne[x] = (x - t.cost[one]) * taken;
                aloneOther[x] = (x - t.cost[other]) * taken;
                likeOne[x] = one < other ? aloneOne[x] : 0;
                likeOther[x] = other < one ? aloneOther[x] : 0;
            }
        }

        int restAt(int i) {
            for (int p = 0; p <= TOP; p++) {
                bestOne[p] = bestAgainst(aloneOne, likeOne, p);
                bestOther[p] = bestAgainst(aloneOther, likeOther, p);
            }
            int found = 0;
            for (int p = 0; p <= TOP; p++) {
                for (int q = 0; q <= TOP; q++) {
                    if (isRest(p, q)) {
                        if (found == i) {
                            return PAIR * p + q;
                        }
                        found++;
                    }
                }
            }
            return i == NONE ? found : NONE;
        }

        private boolean isRest(int p, int q) {
            return gained(aloneOne, likeOne, p, q) == bestOne[q] && gained(aloneOther, likeOther, q, p) == bestOther[p];
        }

        private int bestAgainst(int[] alone, int[] like, int rival) {
            int most = gained(alone, like, 0, rival);
            for (int p = 1; p <= TOP; p++) {
                int some = gained(alone, like, p, rival);
                if (some > most) {
                    most = some;
                }
            }
            return most;
        }

        private int gained(int[] alone, int[] like, int mine, int rival) {
            return mine < rival ? alone[mine] : mine == rival ? like[mine] : 0;
        }
    }

    /** Which houses would rather be one. */
    private static final class Joining {
        private final int[] head = new int[MOST_HOUSES];
        // by half the set, and the house
        private final int[][] earned = new int[MOST_SETS][MOST_HOUSES];

        /** What those that are one with the house under the joined set earn more after than before. */
        int better(Trade t, int joined, int house, int[] before, int[] after) {
            for (int h = 0; h < t.size; h++) {
                int from = t.source[h];
                head[h] = from >= 0 && (joined >> h & 1) != 0 ? head[from] : h;
            }
            int more = 0;
            for (int h = 0; h < t.size; h++) {
                if (head[h] == head[house]) {
                    more += after[h] - before[h];
                }
            }
            return more;
        }

        /** The terms are the trade's own, and their joined houses are used up for the trying. */
        void findRests(Trade t, Terms terms, Market market) {
            int buying = buyingHouses(t);
            for (int half = 0; half < MOST_SETS; half++) {
                if ((2 * half & ~buying) == 0) {
                    terms.joined = 2 * half;
                    market.settle(t, terms);
                    for (int h = 0; h < t.size; h++) {
                        earned[half][h] = market.earned[h];
                    }
                }
            }
            t.restCount = 0;
            for (int half = 0; half < MOST_SETS; half++) {
                if ((2 * half & ~buying) == 0 && isAtRest(t, buying, half) && t.restCount < MOST_SETS) {
                    t.rest[t.restCount] = 2 * half;
                    t.restCount++;
                }
            }
            t.restKnown = true;
        }

        private int buyingHouses(Trade t) {
            int bits = 0;
            for (int h = 0; h < t.size; h++) {
                if (t.source[h] >= 0) {
                    bits |= 1 << h;
                }
            }
            return bits;
        }

        private boolean isAtRest(Trade t, int buying, int half) {
            int open = buying & ~(2 * half);
            for (int h = 1; h < t.size; h++) {
                int more = half | 1 << h - 1;
                if ((open >> h & 1) != 0 && better(t, 2 * more, h, earned[half], earned[more]) > 0) {
                    return false;
                }
            }
            return true;
        }
    }

    /** How many may be wanted, with weights. */
    private static final class Chances {
        private final int[] wanted = new int[MOST_CHANCES];
        private final int[] weight = new int[MOST_CHANCES];
        int size = 0;
        private int weights = 0;

        int more(int someWanted, int someWeight) {
            if (size >= MOST_CHANCES) {
                return NONE;
            }
            wanted[size] = someWanted;
            weight[size] = someWeight;
            weights += someWeight;
            size++;
            return size;
        }

        int forget() {
            int were = size;
            size = 0;
            weights = 0;
            return were;
        }

        private int leftOf(int q) {
            int left = 0;
            for (int k = 0; k < size; k++) {
                left += weight[k] * Math.max(0, q - wanted[k]);
            }
            return left;
        }

        int expected(int price, int cost, int back, int q) {
            int left = leftOf(q);
            int sold = q * weights - left;
            return price * sold + back * left - cost * q * weights;
        }

        int bestStock(int price, int cost, int back) {
            int best = 0;
            int most = expected(price, cost, back, 0);
            for (int q = 1; q <= MOST_WANTED; q++) {
                int some = expected(price, cost, back, q);
                if (some > most) {
                    most = some;
                    best = q;
                }
            }
            return best;
        }

        int sellerExpects(int price, int cost, int m, int back) {
            int q = bestStock(price, cost, back);
            return (cost - m) * q * weights - back * leftOf(q);
        }

        int bestBack(int price, int cost, int m) {
            int best = 0;
            int most = sellerExpects(price, cost, m, 0);
            for (int back = 1; back <= cost; back++) {
                int some = sellerExpects(price, cost, m, back);
                if (some > most) {
                    most = some;
                    best = back;
                }
            }
            return best;
        }
    }
}
