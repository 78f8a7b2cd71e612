import java.util.ArrayList;
import java.util.List;
import java.util.Random;

/** Promises 26 to 30: wants by chances, by hand and held against sums over each chance. */
public final class ChanceTest {
    private static final Check check = new Check("ChanceTest");
    private static final List<int[]> chances = new ArrayList<>();

    public static void main(String[] args) {
        worked();
        bounds();
        many();
        check.end();
    }

    private static void worked() {
        PriceUpon x = new PriceUpon();
        check.due("chance", x.chance(2, 1), 1);
        check.due("chance", x.chance(5, 3), 2);
        // 4 pieces: 2 or 4 are sold, 2 or 0 are left
        check.due("expects", x.expects(7, 3, 1, 4), 7 * (2 + 12) + 2 - 3 * 4 * 4);
        check.due("expects of none", x.expects(7, 3, 1, 0), 0);
        check.due("expects of sixty", x.expects(7, 3, 1, 60), 7 * 17 + 58 + 165 - 720);
        check.due("stock", x.stock(7, 3, 0), 5);
        // from 2 to 5 a piece brings three fourths of 4 against 3: the lowest counts
        check.due("stock of several", x.stock(4, 3, 0), 2);
        check.due("stock at a loss", x.stock(2, 3, 0), 0);
        check.due("stock with more back than paid", x.stock(7, 3, 4), 60);
        // with 1 back the other stocks 5 and 3 are left once in four
        check.due("seller 0", x.seller(4, 3, 1, 0), 1);
        check.due("seller 1", x.seller(4, 3, 1, 1), 2 * 5 * 4 - 3);
        check.due("seller at a loss", x.seller(4, 3, 41, 1), -38 * 2 * 4);
        check.due("seller at a loss, back", x.seller(4, 3, 41, 0), 0);
        check.due("clear", x.clear(), 2);
        check.due("clear again", x.clear(), 0);
    }

    private static void bounds() {
        PriceUpon x = new PriceUpon();
        check.due("expects of no chances", x.expects(1, 1, 1, 1), PriceUpon.HIDDEN);
        check.due("stock of no chances", x.stock(1, 1, 1), -1);
        check.due("seller of no chances", x.seller(1, 1, 1, 0), PriceUpon.HIDDEN);
        int[][] wrong = {{-1, 1}, {61, 1}, {0, 0}, {0, 100}, {Integer.MIN_VALUE, 1}, {0, Integer.MAX_VALUE}};
        for (int[] w : wrong) {
            check.due("chance out of bounds", x.chance(w[0], w[1]), -1);
        }
        check.due("count(1) after refusals", x.count(1), 0);
        for (int k = 1; k <= 12; k++) {
            check.due("chance", x.chance(60, 99), k);
        }
        check.due("a thirteenth", x.chance(1, 1), -1);
        check.due("count(1)", x.count(1), 12);
        check.due("the highest", x.expects(41, 0, 0, 60), 41 * 60 * 99 * 12);
        check.due("the lowest", x.expects(0, 41, 0, 60), -41 * 60 * 99 * 12);
        for (int bad = -1; bad <= 42; bad += 43) {
            check.due("expects price", x.expects(bad, 1, 1, 1), PriceUpon.HIDDEN);
            check.due("expects cost", x.expects(1, bad, 1, 1), PriceUpon.HIDDEN);
            check.due("expects left", x.expects(1, 1, bad, 1), PriceUpon.HIDDEN);
            check.due("stock price", x.stock(bad, 1, 1), -1);
            check.due("stock cost", x.stock(1, bad, 1), -1);
            check.due("stock left", x.stock(1, 1, bad), -1);
            check.due("seller price", x.seller(bad, 1, 1, 0), PriceUpon.HIDDEN);
            check.due("seller cost", x.seller(1, bad, 1, 0), PriceUpon.HIDDEN);
            check.due("seller m", x.seller(1, 1, bad, 0), PriceUpon.HIDDEN);
        }
        check.due("expects q -1", x.expects(1, 1, 1, -1), PriceUpon.HIDDEN);
        check.due("expects q 61", x.expects(1, 1, 1, 61), PriceUpon.HIDDEN);
        check.due("seller what 2", x.seller(1, 1, 1, 2), PriceUpon.HIDDEN);
        check.due("seller what -1", x.seller(1, 1, 1, -1), PriceUpon.HIDDEN);
        check.due("clear of twelve", x.clear(), 12);
        x.chance(1, 5);
        check.due("stock of one", x.stock(5, 2, 0), 1);
        x.clear();
        check.due("chance anew", x.chance(0, 1), 1);
        check.due("stock of what nobody wants", x.stock(41, 1, 0), 0);
    }

    private static int expects(int price, int cost, int back, int q) {
        int all = 0;
        for (int[] c : chances) {
            int sold = Math.min(q, c[0]);
            all += c[1] * (price * sold + back * (q - sold) - cost * q);
        }
        return all;
    }

    private static int stock(int price, int cost, int back) {
        int best = 0;
        for (int q = 1; q <= 60; q++) {
            if (expects(price, cost, back, q) > expects(price, cost, back, best)) {
                best = q;
            }
        }
        return best;
    }

    private static int sells(int price, int cost, int m, int back) {
        int q = stock(price, cost, back);
        int all = 0;
        for (int[] c : chances) {
            all += c[1] * ((cost - m) * q - back * Math.max(0, q - c[0]));
        }
        return all;
    }

    private static void many() {
        Random random = new Random(5);
        PriceUpon x = new PriceUpon();
        for (int k = 0; k < 300; k++) {
            if (k % 24 == 0) {
                x = new PriceUpon();
                chances.clear();
            }
            check.due("clear", x.clear(), chances.size());
            chances.clear();
            for (int c = random.nextInt(12); c >= 0; c--) {
                chances.add(new int[] {random.nextInt(61), 1 + random.nextInt(99)});
                check.due("chance", x.chance(chances.get(chances.size() - 1)[0], chances.get(chances.size() - 1)[1]), chances.size());
            }
            int price = random.nextInt(42);
            int cost = random.nextInt(42);
            int back = random.nextInt(42);
            int m = random.nextInt(42);
            int q = random.nextInt(61);
            check.due("expects", x.expects(price, cost, back, q), expects(price, cost, back, q));
            check.due("stock", x.stock(price, cost, back), stock(price, cost, back));
            int best = 0;
            for (int b = 1; b <= cost; b++) {
                if (sells(price, cost, m, b) > sells(price, cost, m, best)) {
                    best = b;
                }
            }
            check.due("seller 0", x.seller(price, cost, m, 0), best);
            check.due("seller 1", x.seller(price, cost, m, 1), sells(price, cost, m, best));
        }
    }
}
