/** Section 5 with promises 26 to 32, each bound from both sides: chances, stocks, sellers, and houses that join. */
public final class EdgeChanceTest {
    private static final Check check = new Check("EdgeChanceTest");
    private static final int HIDDEN = PriceUpon.HIDDEN;
    private static final int[] NO_PRICES = {-1, 42, Integer.MIN_VALUE, Integer.MAX_VALUE};

    public static void main(String[] args) {
        oneChance();
        twelveChances();
        noChances();
        expects();
        stocks();
        stocksAtTheEnds();
        sellers();
        sellersAtTheEnds();
        rather();
        ratherByThoseThatAreOne();
        restsOfEachShape();
        onlyAllAtRest();
        restsJustSo();
        restsByTerms();
        check.end();
    }

    private static void due(String call, long got, long want) {
        check.due(call, got, want);
    }

    private static PriceUpon chances(int... wantedThenWeight) {
        PriceUpon x = new PriceUpon();
        for (int k = 0; k < wantedThenWeight.length / 2; k++) {
            due("chance", x.chance(wantedThenWeight[2 * k], wantedThenWeight[2 * k + 1]), k + 1);
        }
        return x;
    }

    private static void oneChance() {
        int[][] right = {{0, 1}, {60, 1}, {0, 99}, {60, 99}};
        for (int[] r : right) {
            PriceUpon x = chances(r);
            due("one", x.count(1), 1);
            due("what is expected of one", x.expects(1, 0, 0, 60), r[0] * r[1]);
        }
        int[][] wrong = {{-1, 1}, {61, 1}, {0, 0}, {0, 100}, {60, 0}, {60, 100}, {-1, 99}, {61, 99}, {0, -1},
            {Integer.MIN_VALUE, 1}, {Integer.MAX_VALUE, 1}, {0, Integer.MIN_VALUE}, {0, Integer.MAX_VALUE}};
        for (int[] w : wrong) {
            PriceUpon x = chances(3, 5);
            due("chance " + w[0] + " " + w[1], x.chance(w[0], w[1]), -1);
            due("one is left", x.count(1), 1);
            due("it is as it was", x.expects(2, 1, 0, 4), 5 * (6 - 4));
            due("the next is the second", x.chance(0, 1), 2);
        }
    }

    private static void twelveChances() {
        PriceUpon x = new PriceUpon();
        for (int k = 1; k <= 12; k++) {
            due("chance", x.chance(60, 99), k);
        }
        due("a thirteenth", x.chance(60, 99), -1);
        due("a thirteenth out of bounds", x.chance(61, 99), -1);
        due("twelve", x.count(1), 12);
        due("the highest", x.expects(41, 0, 0, 60), 41 * 60 * 99 * 12);
        due("the lowest", x.expects(0, 41, 0, 60), -41 * 60 * 99 * 12);
        due("the stock", x.stock(41, 0, 0), 60);
        due("clear", x.clear(), 12);
        due("clear again", x.clear(), 0);
        due("none", x.count(1), 0);
        due("a first anew", x.chance(1, 1), 1);
        due("of the first alone", x.expects(5, 1, 0, 1), 4);
    }

    private static void noChances() {
        PriceUpon x = new PriceUpon();
        due("clear of none", x.clear(), 0);
        for (int round = 0; round < 2; round++) {
            due("expects of none", x.expects(1, 1, 1, 1), HIDDEN);
            due("stock of none", x.stock(1, 1, 1), -1);
            due("seller of none", x.seller(1, 1, 1, 0), HIDDEN);
            due("what a seller of none expects", x.seller(1, 1, 1, 1), HIDDEN);
            x.chance(1, 1);
            due("expects of one", x.expects(1, 1, 1, 1), 0);
            due("clear of one", x.clear(), 1);
        }
    }

    private static void expects() {
        PriceUpon x = chances(2, 1, 5, 3);
        int[] sold = {0, 4, 8, 11, 14, 17, 17};
        for (int q = 0; q < sold.length; q++) {
            due("sold of " + q, x.expects(1, 0, 0, q), sold[q]);
            due("left of " + q, x.expects(0, 0, 1, q), 4 * q - sold[q]);
            due("paid for " + q, x.expects(0, 1, 0, q), -4 * q);
        }
        int[][] ends = {{0, 0, 0, 0}, {41, 0, 0, 0}, {0, 41, 0, 0}, {0, 0, 41, 0}, {0, 0, 0, 60}, {41, 41, 41, 60}};
        for (int[] e : ends) {
            due("expects at the ends", x.expects(e[0], e[1], e[2], e[3]), 0);
        }
        due("expects of the highest", x.expects(41, 0, 41, 60), 41 * 60 * 4);
        for (int bad : NO_PRICES) {
            due("price " + bad, x.expects(bad, 1, 1, 1), HIDDEN);
            due("cost " + bad, x.expects(1, bad, 1, 1), HIDDEN);
            due("back " + bad, x.expects(1, 1, bad, 1), HIDDEN);
        }
        for (int bad : new int[] {-1, 61, Integer.MIN_VALUE, Integer.MAX_VALUE}) {
            due("a stock of " + bad, x.expects(1, 1, 1, bad), HIDDEN);
        }
    }

    private static void stocks() {
        PriceUpon x = chances(2, 1, 5, 3);
        // from 2 to 5 a piece more is sold three times in four: 3 for 3 is no more, of several the lowest
        due("as good as none more", x.stock(4, 3, 0), 2);
        due("better by a little back", x.stock(4, 3, 1), 5);
        due("better by a little price", x.stock(5, 3, 0), 5);
        for (int p : new int[] {0, 41}) {
            due("price " + p, x.stock(p, 1, 0), p == 0 ? 0 : 5);
            due("cost " + p, x.stock(1, p, 0), p == 0 ? 5 : 0);
            due("back " + p, x.stock(1, 1, p), p == 0 ? 0 : 60);
        }
        for (int bad : NO_PRICES) {
            due("price " + bad, x.stock(bad, 1, 1), -1);
            due("cost " + bad, x.stock(1, bad, 1), -1);
            due("back " + bad, x.stock(1, 1, bad), -1);
        }
    }

    private static void stocksAtTheEnds() {
        PriceUpon x = chances(60, 1);
        due("all that is wanted", x.stock(2, 1, 0), 60);
        due("nothing won is nothing stocked", x.stock(1, 1, 0), 0);
        due("all of it for nothing", x.stock(0, 0, 0), 0);
        due("more back than paid", x.stock(0, 1, 2), 0);
        PriceUpon y = chances(0, 1);
        due("what nobody wants", y.stock(41, 1, 0), 0);
        due("what comes back for more", y.stock(0, 1, 2), 60);
        due("what comes back for as much", y.stock(41, 2, 2), 0);
    }

    private static void sellers() {
        PriceUpon x = chances(2, 1, 5, 3);
        due("best back", x.seller(4, 3, 1, 0), 1);
        due("what it expects", x.seller(4, 3, 1, 1), 2 * 5 * 4 - 3);
        for (int what : new int[] {-1, 2, Integer.MIN_VALUE, Integer.MAX_VALUE}) {
            due("what " + what, x.seller(4, 3, 1, what), HIDDEN);
        }
        for (int what = 0; what < 2; what++) {
            for (int bad : NO_PRICES) {
                due("price " + bad, x.seller(bad, 1, 1, what), HIDDEN);
                due("cost " + bad, x.seller(1, bad, 1, what), HIDDEN);
                due("m " + bad, x.seller(1, 1, bad, what), HIDDEN);
            }
        }
        // ends that are right
        due("price 41", x.seller(41, 3, 1, 1), 2 * 5 * 4);
        due("price 0", x.seller(0, 3, 1, 1), 0);
        due("cost 0", x.seller(4, 0, 1, 1), -5 * 4);
        due("cost 41", x.seller(4, 41, 1, 1), 0);
        due("m 0", x.seller(41, 3, 0, 1), 3 * 5 * 4);
        due("m 41", x.seller(41, 3, 41, 1), -38 * 5 * 4);
    }

    /** The best back is one of 0 to the cost, the cost too; of several the lowest. */
    private static void sellersAtTheEnds() {
        // sixty are wanted once in 99 times: they are stocked only if all the cost comes back
        PriceUpon x = chances(0, 98, 60, 1);
        due("back as much as the cost", x.seller(2, 1, 0, 0), 1);
        due("expects of it", x.seller(2, 1, 0, 1), 60 * 99 - 60 * 98);
        // at a price that is the cost they are not, and no back is the lowest of several
        due("back for nothing", x.seller(1, 1, 0, 0), 0);
        PriceUpon y = chances(0, 1, 60, 1);
        due("a stock that needs 1 back", y.seller(3, 2, 0, 0), 2);
        due("expects of it", y.seller(3, 2, 0, 1), 2 * 60 * 2 - 2 * 60);
        // with a m that is the cost nothing can be won: no back
        due("no gain, no back", y.seller(3, 2, 2, 0), 0);
        due("no gain", y.seller(3, 2, 2, 1), 0);
        // without back nothing is stocked and nothing lost; m above the cost loses by each
        due("a loss by each", y.seller(3, 2, 41, 0), 0);
        due("none is stocked", y.seller(3, 2, 41, 1), 0);
        due("no cost, no back", y.seller(3, 0, 0, 0), 0);
    }

    private static void rather() {
        // 9 to two apart, 5 to five as one
        PriceUpon x = Check.of("n 3;c 0 1;b 0 1;c 1 1;w 1 9 2;w 1 5 3");
        due("rather", x.rather(0, 1), 1);
        due("a maker", x.rather(0, 0), HIDDEN);
        due("a maker that is a shop", x.rather(0, 2), HIDDEN);
        x.join(0, 2);
        due("joined", x.rather(0, 1), HIDDEN);
        x.join(0, 5);
        due("not joined", x.rather(0, 1), 1);
        for (int h : new int[] {-1, 3, 8, 32, Integer.MIN_VALUE, Integer.MAX_VALUE}) {
            due("house " + h, x.rather(0, h), HIDDEN);
        }
        for (int t : new int[] {-1, 1, 10}) {
            due("trade " + t, x.rather(t, 1), HIDDEN);
        }
        PriceUpon y = Check.of("n 2;b 0 1;w 1 9 1");
        due("as well one as two", y.rather(0, 1), 0);
    }

    /** With one price for all, 1 joined leaves 2 a price of its own: 4 and not 8; that is 2's gain, and not counted. */
    private static void ratherByThoseThatAreOne() {
        PriceUpon x = Check.of("n 3;b 0 1;b 0 2;w 1 8 2;w 2 4 1");
        x.law(0, 41, true);
        // now: 8 to two is 16; then: 1 has 16, and 2 pays 4 to 0
        due("rather of 1", x.rather(0, 1), 4);
        // 2 joined: 4 of its own, and 8 to 1 stays
        due("rather of 2", x.rather(0, 2), 4);
        x.join(0, 2);
        // all three are one then
        due("rather of 2 besides", x.rather(0, 2), 0);
        PriceUpon y = Check.of("n 3;b 0 1;b 0 2;w 1 8 1;w 2 4 1");
        y.law(0, 41, true);
        // now 4 to both, of several the lowest: 0 has 8, 1 has 4; joined they have 8 and 4 of 2
        due("rather of 1 that paid 4", y.rather(0, 1), 0);
        due("rather of 2 that paid 4", y.rather(0, 2), 4);
    }

    private static void restsOfEachShape() {
        for (int n = 1; n <= 8; n++) {
            StringBuilder star = new StringBuilder("n " + n);
            for (int h = 1; h < n; h++) {
                star.append(";b 0 ").append(h);
            }
            PriceUpon x = Check.of(star.toString());
            int sets = 1 << n - 1;
            due("sets of " + n, x.rests(0, -1), sets);
            for (int i = 0; i < sets; i++) {
                due("set " + i + " of " + n, x.rests(0, i), 2 * i);
            }
            for (int bad : new int[] {-2, sets, Integer.MIN_VALUE, Integer.MAX_VALUE}) {
                due("set " + bad + " of " + n, x.rests(0, bad), -1);
            }
        }
        // only houses that buy: 2 and 5
        PriceUpon y = Check.of("n 6;b 1 2;b 4 5");
        int[] due = {0, 4, 32, 36};
        due("sets of two", y.rests(0, -1), 4);
        for (int i = 0; i < 4; i++) {
            due("set " + i, y.rests(0, i), due[i]);
        }
        due("behind the last", y.rests(0, 4), -1);
        for (int i = -1; i < 1; i++) {
            due("trade 1", y.rests(1, i), -1);
            due("trade -1", y.rests(-1, i), -1);
        }
    }

    /** Each of the houses that buy would rather be joined, whoever else is: only all of them are at rest. */
    private static void onlyAllAtRest() {
        for (int n = 1; n <= 8; n++) {
            StringBuilder star = new StringBuilder("n " + n + ";c 0 1");
            for (int h = 1; h < n; h++) {
                star.append(";b 0 ").append(h).append(";c ").append(h).append(" 1");
                star.append(";w ").append(h).append(" 9 2;w ").append(h).append(" 5 3");
            }
            PriceUpon x = Check.of(star.toString());
            int all = (1 << n) - 2;
            due("one set of " + n, x.rests(0, -1), 1);
            due("all of " + n, x.rests(0, 0), all);
            due("no second of " + n, x.rests(0, 1), -1);
            for (int h = 1; h < n; h++) {
                x.join(0, all - (1 << h));
                due("rather of the last one out", x.rather(0, h), 1);
                x.join(0, 0);
                due("rather of the first one in", x.rather(0, h), 1);
            }
        }
    }

    /** What is joined is not asked whether it would rather not be; what is as good is at rest. */
    private static void restsJustSo() {
        PriceUpon x = Check.of("n 2;b 0 1;w 1 9 1");
        due("as good either way", x.rests(0, -1), 2);
        PriceUpon y = Check.of("n 2;c 0 1;b 0 1;c 1 1;w 1 9 2;w 1 5 3");
        due("better by one", y.rests(0, -1), 1);
        due("that is joined", y.rests(0, 0), 2);
        y.join(0, 2);
        due("whoever is joined now", y.rests(0, 0), 2);
        y.join(0, 3);
        due("and makers", y.rests(0, -1), 1);
    }

    private static void restsByTerms() {
        PriceUpon x = Check.of("n 2;c 0 1;b 0 1;c 1 1;w 1 9 2;w 1 5 3");
        due("free", x.rests(0, -1), 1);
        x.law(0, 5, false);
        due("under a cap", x.rests(0, -1), 2);
        x.law(0, 41, false);
        due("free again", x.rests(0, -1), 1);
        // free, 17 to one; halved, 3 to four, which is what they would ask together
        PriceUpon y = Check.of("n 2;b 0 1;w 1 17 1;w 1 7 3");
        for (int round = 0; round < 2; round++) {
            y.halve(0, false);
            due("free", y.rests(0, -1), 1);
            due("rather, free", y.rather(0, 1), 11);
            y.halve(0, true);
            due("halved", y.rests(0, -1), 2);
            due("rather, halved", y.rather(0, 1), 0);
        }
        // one price for all: 0 and 2 would rather be one, so that 1 pays 9 and not 4; none joined is no rest
        PriceUpon z = Check.of("n 3;b 0 1;b 0 2;w 1 9 1;w 2 4 2");
        for (int round = 0; round < 2; round++) {
            z.law(0, 41, false);
            due("each its own", z.rests(0, -1), 4);
            z.law(0, 41, true);
            due("one price for all", z.rests(0, -1), 3);
            due("the first of them", z.rests(0, 0), 2);
        }
    }
}
