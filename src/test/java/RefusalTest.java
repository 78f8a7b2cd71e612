/** Promises 9 to 25, 31 and 32: wrong inputs answer as told and change nothing. */
public final class RefusalTest {
    private static final Check check = new Check("RefusalTest");
    private static final int HIDDEN = PriceUpon.HIDDEN;
    private static final int[] NO_TRADES = {-1, 1, 10, Integer.MIN_VALUE, Integer.MAX_VALUE};
    private static final int[] NO_HOUSES = {-2, 4, 8, 31, 32, 64, Integer.MIN_VALUE, Integer.MAX_VALUE};
    private static final int[] NO_PRICES = {-1, 42, Integer.MIN_VALUE, Integer.MAX_VALUE};
    private static PriceUpon x;

    public static void main(String[] args) {
        // 0 makes, 1 and 2 are shops, 3 is both
        x = Check.of("n 4;b 0 1;b 0 2;c 0 1;c 1 2;w 1 9 2;w 1 5 3;w 2 8 4;w 3 3 3;e 1 5");
        x.join(0, 4);
        x.law(0, 30, true);
        x.halve(0, true);
        x.tell(0, 1, false, 4);
        x.tell(0, 1, true, 6);
        x.chance(3, 3);
        long before = state();
        for (int t : NO_TRADES) {
            noTrade(t);
        }
        for (int h : NO_HOUSES) {
            noHouse(h);
        }
        for (int p : NO_PRICES) {
            noPrice(p);
        }
        others();
        check.due("the state after all refusals", state(), before);
        check.end();
    }

    private static long state() {
        long all = x.count(0) * 7 + x.count(1) * 11 + x.count(2) * 13;
        for (int h = 0; h < 4; h++) {
            for (int what = 0; what < 4; what++) {
                all = all * 31 + x.outcome(0, h, what);
            }
            all = all * 31 + x.given(0, h) + x.gain(0, h);
        }
        return all * 31 + x.doers(0) + x.rests(0, -1);
    }

    private static void noTrade(int t) {
        check.refusesHouse(x, t, 0, 0);
        check.due("houses", x.houses(t), -1);
        check.due("want", x.want(t, 1, 1), -1);
        check.due("join", x.join(t, 0), false);
        check.due("law", x.law(t, 41, false), false);
        check.due("halve", x.halve(t, false), false);
        check.due("ask", x.ask(t, 1, 1), -1);
        check.due("take", x.take(t, 1, 1), -1);
        check.due("outcome", x.outcome(t, 1, 1), HIDDEN);
        check.due("sum", x.sum(t, 1), HIDDEN);
        check.due("passed", x.passed(t, 1, 1, 1), HIDDEN);
        check.due("gain", x.gain(t, 1), HIDDEN);
        check.due("gain of buyers", x.gain(t, -1), HIDDEN);
        check.due("tell", x.tell(t, 1, false, 1), false);
        check.due("given", x.given(t, 1), HIDDEN);
        check.due("doers", x.doers(t), -1);
        check.due("fee", x.fee(t, 1, 0), HIDDEN);
        check.due("fee 1", x.fee(t, 1, 1), HIDDEN);
        check.due("parts", x.parts(t, 1, -1), -1);
        check.due("takings", x.takings(t, 1, 0), HIDDEN);
        check.due("rivals", x.rivals(t, 1, 2, 1, 1, -1), -1);
        check.due("makers", x.makers(t, 0, 1, 2, -1), -1);
        check.due("rather", x.rather(t, 1), HIDDEN);
        check.due("rests", x.rests(t, -1), -1);
    }

    private static void noHouse(int h) {
        check.refusesHouse(x, 0, h, 0);
        check.due("want", x.want(0, h, 1), -1);
        check.due("ask", x.ask(0, h, 1), -1);
        check.due("take", x.take(0, h, 1), -1);
        check.due("outcome", x.outcome(0, h, 1), HIDDEN);
        check.due("passed house", x.passed(0, h, 1, 1), HIDDEN);
        check.due("passed shop", x.passed(0, 1, 1, h), HIDDEN);
        check.due("gain", x.gain(0, h), HIDDEN);
        check.due("tell", x.tell(0, h, false, 1), false);
        check.due("tell to ask", x.tell(0, h, true, 1), false);
        check.due("given", x.given(0, h), HIDDEN);
        check.due("fee", x.fee(0, h, 0), HIDDEN);
        check.due("fee 1", x.fee(0, h, 1), HIDDEN);
        check.due("parts", x.parts(0, h, -1), -1);
        check.due("takings", x.takings(0, h, 0), HIDDEN);
        check.due("rivals one", x.rivals(0, h, 2, 1, 1, -1), -1);
        check.due("rivals other", x.rivals(0, 1, h, 1, 1, -1), -1);
        check.due("makers one", x.makers(0, h, 1, 2, -1), -1);
        check.due("makers other", x.makers(0, 0, h, 2, -1), -1);
        check.due("makers shop", x.makers(0, 0, 1, h, -1), -1);
        check.due("rather", x.rather(0, h), HIDDEN);
    }

    private static void noPrice(int p) {
        check.due("want", x.want(0, 1, p), -1);
        check.due("law", x.law(0, p, false), false);
        check.due("tell", x.tell(0, 1, false, p), false);
        check.due("tell to ask", x.tell(0, 1, true, p), false);
        check.due("rivals u", x.rivals(0, 1, 2, p, 1, -1), -1);
        check.due("rivals v", x.rivals(0, 1, 2, 1, p, -1), -1);
    }

    private static void others() {
        for (int bad : new int[] {-1, 301, Integer.MIN_VALUE, Integer.MAX_VALUE}) {
            check.due("ask u", x.ask(0, 1, bad), -1);
            check.due("take u", x.take(0, 1, bad), -1);
            check.due("passed v", x.passed(0, 1, bad, 1), HIDDEN);
            check.due("outcome what", x.outcome(0, 1, bad), HIDDEN);
            check.due("sum what", x.sum(0, bad), HIDDEN);
            check.due("fee what", x.fee(0, 1, bad), HIDDEN);
            check.due("join", x.join(0, bad), false);
        }
        check.due("passed v 31", x.passed(0, 1, 31, 1), HIDDEN);
        check.due("outcome what 4", x.outcome(0, 1, 4), HIDDEN);
        check.due("sum what 4", x.sum(0, 4), HIDDEN);
        check.due("fee what 2", x.fee(0, 1, 2), HIDDEN);
        check.due("join 16", x.join(0, 16), false);
        check.due("join 31", x.join(0, 31), false);
        check.due("want of no shop", x.want(0, 0, 1), -1);
        check.due("ask of no shop", x.ask(0, 0, 1), -1);
        check.due("passed to no shop", x.passed(0, 0, 1, 0), HIDDEN);
        check.due("parts of no shop", x.parts(0, 0, -1), -1);
        check.due("parts of a maker", x.parts(0, 3, -1), -1);
        check.due("takings of no shop", x.takings(0, 0, 0), HIDDEN);
        check.due("takings of a maker", x.takings(0, 3, 0), HIDDEN);
        check.due("rivals of no shop", x.rivals(0, 0, 1, 1, 1, -1), -1);
        check.due("rivals to no shop", x.rivals(0, 1, 0, 1, 1, -1), -1);
        check.due("rivals alike", x.rivals(0, 1, 1, 1, 1, -1), -1);
        check.due("makers alike", x.makers(0, 0, 0, 2, -1), -1);
        check.due("makers of no shop", x.makers(0, 1, 2, 0, -1), -1);
        check.due("makers, one is the shop", x.makers(0, 2, 1, 2, -1), -1);
        check.due("makers, other is the shop", x.makers(0, 1, 2, 2, -1), -1);
        check.due("rather of a maker", x.rather(0, 0), HIDDEN);
        check.due("rather of a maker that is a shop", x.rather(0, 3), HIDDEN);
        check.due("rather of a joined one", x.rather(0, 2), HIDDEN);
        indexes();
    }

    private static void indexes() {
        int pairs = x.parts(0, 1, -1);
        int shops = x.rivals(0, 1, 2, 1, 1, -1);
        int offers = x.makers(0, 0, 3, 1, -1);
        int sets = x.rests(0, -1);
        for (int bad : new int[] {-2, Integer.MIN_VALUE, Integer.MAX_VALUE, 4100}) {
            check.due("parts i", x.parts(0, 1, bad), -1);
            check.due("takings i", x.takings(0, 1, bad), HIDDEN);
            check.due("rivals i", x.rivals(0, 1, 2, 1, 1, bad), -1);
            check.due("makers i", x.makers(0, 0, 3, 1, bad), -1);
            check.due("rests i", x.rests(0, bad), -1);
        }
        check.due("takings NONE", x.takings(0, 1, -1), HIDDEN);
        check.due("parts past the end", x.parts(0, 1, pairs), -1);
        check.due("takings past the end", x.takings(0, 1, pairs), HIDDEN);
        check.due("rivals past the end", x.rivals(0, 1, 2, 1, 1, shops), -1);
        check.due("makers past the end", x.makers(0, 0, 3, 1, offers), -1);
        check.due("rests past the end", x.rests(0, sets), -1);
        check.due("the last set", x.rests(0, sets - 1) >= 0, true);
    }
}
