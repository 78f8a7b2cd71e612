/** Every call that the document refuses: it answers as told, and changes nothing that any later call tells. */
public final class RefusalTest {
    private static final Check check = new Check("RefusalTest");
    private static final int HIDDEN = PriceUpon.HIDDEN;
    private static final int[] NO_TRADES = {-1, 2, 9, 10, Integer.MIN_VALUE, Integer.MAX_VALUE};
    private static final int[] NO_HOUSES = {-2, 4, 7, 8, 31, 32, 64, Integer.MIN_VALUE, Integer.MAX_VALUE};
    private static final int[] NO_PRICES = {-1, 42, Integer.MIN_VALUE, Integer.MAX_VALUE};
    private static final int[] NO_STOCKS = {-1, 61, Integer.MIN_VALUE, Integer.MAX_VALUE};
    private static State state = State.BUSY;
    private static String before;

    /** What an object has come to when the refused call comes. */
    private enum State { NEW, BUSY, FAULTY, FULL }

    private interface IntCall {
        int on(PriceUpon x);
    }

    private interface BooleanCall {
        boolean on(PriceUpon x);
    }

    public static void main(String[] args) {
        from(State.BUSY);
        allShown();
        for (int t : NO_TRADES) {
            noTrade(t);
        }
        for (int h : NO_HOUSES) {
            noHouse(h);
        }
        refused("house", x -> Snapshot.house(x, 0, -1, 0), Snapshot.THROWN);
        refused("tell to pay", x -> x.tell(0, -1, false, 1), false);
        refused("tell to ask", x -> x.tell(0, -1, true, 1), false);
        for (int p : NO_PRICES) {
            noPrice(p);
        }
        others();
        indexes();
        chances();
        tapes();
        from(State.FAULTY);
        refused("trade of a fault", x -> x.trade(), -1);
        tapes();
        from(State.FULL);
        refused("trade with ten", x -> x.trade(), -1);
        noTrade(10);
        noTrade(-1);
        refused("chance with twelve", x -> x.chance(3, 3), -1);
        refused("feed over 300", x -> x.feed(0, 0, 0, 0, 'n'), -1);
        refused("feed of twenty over 300", x -> x.feed(-1, -1, -1, -1, -1), -1);
        chances();
        from(State.NEW);
        refused("trade of nothing", x -> x.trade(), -1);
        noTrade(0);
        noChances();
        tapes();
        check.end();
    }

    private static void from(State some) {
        state = some;
        before = Snapshot.of(made());
    }

    private static PriceUpon made() {
        PriceUpon x = new PriceUpon();
        if (state == State.NEW) {
            return x;
        }
        if (state == State.FULL) {
            for (int k = 0; k < 10; k++) {
                Check.type(x, "n 2;b 0 1;w 1 9 2;c 0 " + k);
                x.trade();
            }
            for (int k = 0; k < 12; k++) {
                x.chance(5 * k, k + 1);
            }
            Check.type(x, "n 1" + ";c 0 3".repeat(49) + "   ");
            return x;
        }
        // 0 makes, 1 and 2 are shops, 3 is both
        Check.type(x, "n 4;b 0 1;b 0 2;c 0 1;c 1 2;w 1 9 2;w 1 5 3;w 2 8 4;w 3 3 3;e 1 5");
        x.trade();
        Check.type(x, "n 3;b 0 1;b 1 2;w 2 17 1;w 2 7 3;c 1 1");
        x.trade();
        x.join(0, 4);
        x.law(0, 7, true);
        x.halve(0, true);
        x.tell(0, 1, false, 4);
        x.tell(0, 1, true, 6);
        x.join(1, 2);
        x.law(1, 16, false);
        x.tell(1, 2, true, 7);
        x.chance(3, 3);
        x.chance(30, 7);
        Check.type(x, state == State.FAULTY ? "n 2;b 0 1;w 1 6 3;c 1 2;c 1 31" : "n 2;b 0 1;w 1 6 3;c 1 2");
        return x;
    }

    private static void refused(String name, IntCall call, int want) {
        PriceUpon x = made();
        check.due(state + ": " + name, call.on(x), want);
        check.due(state + ": what is told after " + name, Snapshot.of(x).equals(before), true);
    }

    private static void refused(String name, BooleanCall call, boolean want) {
        refused(name, x -> call.on(x) ? 1 : 0, want ? 1 : 0);
    }

    /** That a snapshot tells of each thing that a call could change: without this, the rest would prove nothing. */
    private static void shown(String name, BooleanCall call) {
        PriceUpon x = made();
        check.due(name + " is right", call.on(x), true);
        check.due(name + " shows", Snapshot.of(x).equals(before), false);
    }

    private static void allShown() {
        shown("feed", x -> x.feed(0, 0, 0, 0, ' ') > 0);
        shown("end", x -> x.end(9));
        shown("trade", x -> x.trade() == 2);
        for (int bits : new int[] {0, 2, 6}) {
            shown("join", x -> x.join(0, bits));
        }
        shown("join of the other", x -> x.join(1, 0));
        shown("cap", x -> x.law(0, 6, true));
        shown("alike", x -> x.law(0, 7, false));
        shown("cap of the other", x -> x.law(1, 41, false));
        shown("halve", x -> x.halve(0, false));
        shown("halve the other", x -> x.halve(1, true));
        for (int h = 0; h < 4; h++) {
            int house = h;
            shown("tell to pay", x -> x.tell(0, house, false, 5));
        }
        for (int h = 1; h < 4; h++) {
            int house = h;
            shown("tell to ask", x -> x.tell(0, house, true, 3));
        }
        shown("tell the other", x -> x.tell(1, 2, true, 8));
        shown("chance", x -> x.chance(0, 1) == 3);
        shown("clear", x -> x.clear() == 2);
    }

    private static void noTrade(int t) {
        refused("house", x -> Snapshot.house(x, t, 0, 0), Snapshot.THROWN);
        refused("houses", x -> x.houses(t), -1);
        refused("want", x -> x.want(t, 1, 1), -1);
        refused("join", x -> x.join(t, 0), false);
        refused("law", x -> x.law(t, 41, false), false);
        refused("halve", x -> x.halve(t, false), false);
        refused("ask", x -> x.ask(t, 1, 1), -1);
        refused("take", x -> x.take(t, 1, 1), -1);
        refused("outcome", x -> x.outcome(t, 1, 1), HIDDEN);
        refused("sum", x -> x.sum(t, 1), HIDDEN);
        refused("passed", x -> x.passed(t, 1, 1, 1), HIDDEN);
        refused("gain", x -> x.gain(t, 1), HIDDEN);
        refused("gain of buyers", x -> x.gain(t, -1), HIDDEN);
        refused("tell", x -> x.tell(t, 1, false, 1), false);
        refused("given", x -> x.given(t, 1), HIDDEN);
        refused("doers", x -> x.doers(t), -1);
        refused("fee", x -> x.fee(t, 1, 0), HIDDEN);
        refused("fee 1", x -> x.fee(t, 1, 1), HIDDEN);
        refused("parts", x -> x.parts(t, 1, -1), -1);
        refused("takings", x -> x.takings(t, 1, 0), HIDDEN);
        refused("rivals", x -> x.rivals(t, 1, 2, 1, 1, -1), -1);
        refused("makers", x -> x.makers(t, 0, 1, 2, -1), -1);
        refused("rather", x -> x.rather(t, 1), HIDDEN);
        refused("rests", x -> x.rests(t, -1), -1);
    }

    private static void noHouse(int h) {
        refused("house", x -> Snapshot.house(x, 0, h, 0), Snapshot.THROWN);
        refused("want", x -> x.want(0, h, 1), -1);
        refused("ask", x -> x.ask(0, h, 1), -1);
        refused("take", x -> x.take(0, h, 1), -1);
        refused("outcome", x -> x.outcome(0, h, 1), HIDDEN);
        refused("passed house", x -> x.passed(0, h, 1, 1), HIDDEN);
        refused("passed shop", x -> x.passed(0, 1, 1, h), HIDDEN);
        refused("gain", x -> x.gain(0, h), HIDDEN);
        refused("tell", x -> x.tell(0, h, false, 1), false);
        refused("tell to ask", x -> x.tell(0, h, true, 1), false);
        refused("given", x -> x.given(0, h), HIDDEN);
        refused("fee", x -> x.fee(0, h, 0), HIDDEN);
        refused("fee 1", x -> x.fee(0, h, 1), HIDDEN);
        refused("parts", x -> x.parts(0, h, -1), -1);
        refused("takings", x -> x.takings(0, h, 0), HIDDEN);
        refused("rivals one", x -> x.rivals(0, h, 2, 1, 1, -1), -1);
        refused("rivals other", x -> x.rivals(0, 1, h, 1, 1, -1), -1);
        refused("makers one", x -> x.makers(0, h, 1, 2, -1), -1);
        refused("makers other", x -> x.makers(0, 0, h, 2, -1), -1);
        refused("makers shop", x -> x.makers(0, 0, 1, h, -1), -1);
        refused("rather", x -> x.rather(0, h), HIDDEN);
    }

    private static void noPrice(int p) {
        refused("want", x -> x.want(0, 1, p), -1);
        refused("law", x -> x.law(0, p, false), false);
        refused("tell", x -> x.tell(0, 1, false, p), false);
        refused("tell to ask", x -> x.tell(0, 1, true, p), false);
        refused("rivals u", x -> x.rivals(0, 1, 2, p, 1, -1), -1);
        refused("rivals v", x -> x.rivals(0, 1, 2, 1, p, -1), -1);
    }

    private static void others() {
        for (int bad : new int[] {-1, 301, Integer.MIN_VALUE, Integer.MAX_VALUE}) {
            refused("ask u", x -> x.ask(0, 1, bad), -1);
            refused("take u", x -> x.take(0, 1, bad), -1);
            refused("passed v", x -> x.passed(0, 1, bad, 1), HIDDEN);
            refused("house what", x -> Snapshot.house(x, 0, 1, bad), Snapshot.THROWN);
            refused("outcome what", x -> x.outcome(0, 1, bad), HIDDEN);
            refused("sum what", x -> x.sum(0, bad), HIDDEN);
            refused("fee what", x -> x.fee(0, 1, bad), HIDDEN);
            refused("join", x -> x.join(0, bad), false);
        }
        refused("passed v 31", x -> x.passed(0, 1, 31, 1), HIDDEN);
        refused("house what 5", x -> Snapshot.house(x, 0, 1, 5), Snapshot.THROWN);
        refused("outcome what 4", x -> x.outcome(0, 1, 4), HIDDEN);
        refused("sum what 4", x -> x.sum(0, 4), HIDDEN);
        refused("fee what 2", x -> x.fee(0, 1, 2), HIDDEN);
        refused("join 16", x -> x.join(0, 16), false);
        refused("join 31", x -> x.join(0, 31), false);
        refused("join 8 of three", x -> x.join(1, 8), false);
        refused("join 256", x -> x.join(0, 256), false);
        refused("want of no shop", x -> x.want(0, 0, 1), -1);
        refused("ask of no shop", x -> x.ask(0, 0, 1), -1);
        refused("passed to no shop", x -> x.passed(0, 0, 1, 0), HIDDEN);
        refused("parts of no shop", x -> x.parts(0, 0, -1), -1);
        refused("parts of a maker", x -> x.parts(0, 3, -1), -1);
        refused("takings of no shop", x -> x.takings(0, 0, 0), HIDDEN);
        refused("takings of a maker", x -> x.takings(0, 3, 0), HIDDEN);
        refused("rivals of no shop", x -> x.rivals(0, 0, 1, 1, 1, -1), -1);
        refused("rivals to no shop", x -> x.rivals(0, 1, 0, 1, 1, -1), -1);
        refused("rivals alike", x -> x.rivals(0, 1, 1, 1, 1, -1), -1);
        refused("makers alike", x -> x.makers(0, 0, 0, 2, -1), -1);
        refused("makers of no shop", x -> x.makers(0, 1, 2, 0, -1), -1);
        refused("makers, one is the shop", x -> x.makers(0, 2, 1, 2, -1), -1);
        refused("makers, other is the shop", x -> x.makers(0, 1, 2, 2, -1), -1);
        refused("rather of a maker", x -> x.rather(0, 0), HIDDEN);
        refused("rather of a maker that is a shop", x -> x.rather(0, 3), HIDDEN);
        refused("rather of a joined one", x -> x.rather(0, 2), HIDDEN);
    }

    private static void indexes() {
        PriceUpon y = made();
        int pairs = y.parts(0, 1, -1);
        int shops = y.rivals(0, 1, 2, 1, 1, -1);
        int offers = y.makers(0, 0, 3, 1, -1);
        int sets = y.rests(0, -1);
        for (int bad : new int[] {-2, Integer.MIN_VALUE, Integer.MAX_VALUE, 4100}) {
            refused("parts i", x -> x.parts(0, 1, bad), -1);
            refused("takings i", x -> x.takings(0, 1, bad), HIDDEN);
            refused("rivals i", x -> x.rivals(0, 1, 2, 1, 1, bad), -1);
            refused("makers i", x -> x.makers(0, 0, 3, 1, bad), -1);
            refused("rests i", x -> x.rests(0, bad), -1);
        }
        refused("takings NONE", x -> x.takings(0, 1, -1), HIDDEN);
        refused("parts past the end", x -> x.parts(0, 1, pairs), -1);
        refused("takings past the end", x -> x.takings(0, 1, pairs), HIDDEN);
        refused("rivals past the end", x -> x.rivals(0, 1, 2, 1, 1, shops), -1);
        refused("makers past the end", x -> x.makers(0, 0, 3, 1, offers), -1);
        refused("rests past the end", x -> x.rests(0, sets), -1);
        check.due("the last pair", y.parts(0, 1, pairs - 1) >= 0, true);
        check.due("the last takings", y.takings(0, 1, pairs - 1) != HIDDEN, true);
        check.due("the last rest of shops", y.rivals(0, 1, 2, 1, 1, shops - 1) >= 0, true);
        check.due("the last rest of makers", y.makers(0, 0, 3, 1, offers - 1) >= 0, true);
        check.due("the last set", y.rests(0, sets - 1) >= 0, true);
    }

    private static void chances() {
        for (int bad : NO_STOCKS) {
            refused("chance wanted", x -> x.chance(bad, 1), -1);
            refused("expects q", x -> x.expects(1, 1, 1, bad), HIDDEN);
        }
        for (int bad : new int[] {0, 100, -1, Integer.MIN_VALUE, Integer.MAX_VALUE}) {
            refused("chance weight", x -> x.chance(1, bad), -1);
        }
        for (int bad : NO_PRICES) {
            refused("expects price", x -> x.expects(bad, 1, 1, 1), HIDDEN);
            refused("expects cost", x -> x.expects(1, bad, 1, 1), HIDDEN);
            refused("expects left", x -> x.expects(1, 1, bad, 1), HIDDEN);
            refused("stock price", x -> x.stock(bad, 1, 1), -1);
            refused("stock cost", x -> x.stock(1, bad, 1), -1);
            refused("stock left", x -> x.stock(1, 1, bad), -1);
            refused("seller price", x -> x.seller(bad, 1, 1, 0), HIDDEN);
            refused("seller cost", x -> x.seller(1, bad, 1, 0), HIDDEN);
            refused("seller m", x -> x.seller(1, 1, bad, 1), HIDDEN);
        }
        for (int bad : new int[] {-1, 2, Integer.MIN_VALUE, Integer.MAX_VALUE}) {
            refused("seller what", x -> x.seller(1, 1, 1, bad), HIDDEN);
        }
    }

    private static void noChances() {
        refused("expects of no chances", x -> x.expects(1, 1, 1, 1), HIDDEN);
        refused("stock of no chances", x -> x.stock(1, 1, 1), -1);
        refused("seller of no chances", x -> x.seller(1, 1, 1, 0), HIDDEN);
        refused("seller of no chances expects", x -> x.seller(1, 1, 1, 1), HIDDEN);
        refused("clear of none", x -> x.clear(), 0);
    }

    private static void tapes() {
        int length = made().count(2);
        for (int bad : new int[] {-1, length + 1, 300, 301, Integer.MIN_VALUE, Integer.MAX_VALUE}) {
            refused("end", x -> x.end(bad), false);
        }
        for (int bad : new int[] {-1, 3, Integer.MIN_VALUE, Integer.MAX_VALUE}) {
            refused("count", x -> x.count(bad), -1);
        }
    }
}
