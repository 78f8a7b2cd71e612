/** Section 2 with promises 9 to 17, each bound from both sides: terms, what each would do, and what comes of it. */
public final class EdgeTermsTest {
    private static final Check check = new Check("EdgeTermsTest");
    private static final int HIDDEN = PriceUpon.HIDDEN;
    private static final int[] NO_PRICES = {-1, 42, Integer.MIN_VALUE, Integer.MAX_VALUE};

    public static void main(String[] args) {
        termsAtFirst();
        joinsOfEachSize();
        joinedMakers();
        caps();
        pricesAtTheCap();
        highestPrices();
        whatIsSpent();
        lowestOfSeveral();
        lowestToOthers();
        nobodyWants();
        onlyTheHighest();
        paidAboveTheHighest();
        alike();
        joinedOrAlikeOrHalved();
        halvedBelowNought();
        halvedOfSeveral();
        outcomes();
        savings();
        together();
        passed();
        gains();
        check.end();
    }

    private static void due(String call, long got, long want) {
        check.due(call, got, want);
    }

    private static void paid(PriceUpon x, int house, int pays, int sold, int earns) {
        due("paid by " + house, x.outcome(0, house, 0), pays);
        due("sold by " + house, x.outcome(0, house, 2), sold);
        due("earned by " + house, x.outcome(0, house, 3), earns);
    }

    /** None joined, no cap, not alike, not halved; and each of these told once more changes nothing. */
    private static void termsAtFirst() {
        String text = "n 4;b 0 1;b 0 2;b 0 3;w 1 10 1;w 2 4 3;w 3 40 1;c 0 1";
        int[] pays = {0, 10, 4, 40};
        PriceUpon x = Check.of(text);
        for (int h = 0; h < 4; h++) {
            due("paid at first", x.outcome(0, h, 0), pays[h]);
        }
        check.due("none joined", x.join(0, 0), true);
        check.due("cap 41, not alike", x.law(0, 41, false), true);
        check.due("not halved", x.halve(0, false), true);
        for (int h = 0; h < 4; h++) {
            due("paid as at first", x.outcome(0, h, 0), pays[h]);
            due("no gain by a law that is none", x.gain(0, h), 0);
        }
        due("asked above each cap below 41", x.outcome(0, 3, 1), 40);
        due("rather, none being joined", x.rather(0, 1) == HIDDEN ? 1 : 0, 0);
    }

    private static void joinsOfEachSize() {
        for (int n = 1; n <= 8; n++) {
            StringBuilder text = new StringBuilder("n " + n);
            for (int h = 1; h < n; h++) {
                text.append(";b 0 ").append(h);
            }
            PriceUpon x = Check.of(text + ";w " + (n - 1) + " 10 1;c 0 1");
            int all = (1 << n) - 1;
            check.due("all of " + n, x.join(0, all), true);
            due("the last is joined", x.outcome(0, n - 1, 0), n == 1 ? 0 : 1);
            for (int bad : new int[] {all + 1, -1, Integer.MIN_VALUE, Integer.MAX_VALUE, 2 * all + 1, 256}) {
                check.due("join of " + bad, x.join(0, bad), false);
            }
            due("the last is joined still", x.outcome(0, n - 1, 0), n == 1 ? 0 : 1);
            check.due("none", x.join(0, 0), true);
            due("the last is not joined", x.outcome(0, n - 1, 0), n == 1 ? 0 : 10);
            check.due("the last alone", x.join(0, 1 << n - 1), true);
            due("it is joined", x.outcome(0, n - 1, 0), n == 1 ? 0 : 1);
            check.due("no such trade", x.join(1, 0), false);
            check.due("trade -1", x.join(-1, 0), false);
        }
    }

    private static void joinedMakers() {
        PriceUpon x = Check.of("n 3;b 0 1;w 1 10 1;w 2 10 1;c 2 3");
        check.due("makers", x.join(0, 5), true);
        paid(x, 0, 0, 1, 10);
        paid(x, 1, 10, 1, 0);
        paid(x, 2, 0, 1, 7);
        due("a maker is none to be joined, JOINED or not", x.rather(0, 2), HIDDEN);
        due("the other one still is", x.rather(0, 1), 0);
    }

    private static void caps() {
        PriceUpon x = Check.of("n 1;w 0 9 1");
        for (int cap = 0; cap <= 41; cap++) {
            check.due("cap " + cap, x.law(0, cap, false), true);
            due("asked under " + cap, x.outcome(0, 0, 1), Math.min(cap, 9));
        }
        check.due("cap 3", x.law(0, 3, false), true);
        for (int bad : NO_PRICES) {
            check.due("cap " + bad, x.law(0, bad, true), false);
            due("cap 3 still", x.outcome(0, 0, 1), 3);
        }
        check.due("no such trade", x.law(1, 3, true), false);
        check.due("trade -1", x.law(-1, 3, true), false);
        check.due("halve no such trade", x.halve(1, true), false);
        check.due("halve trade -1", x.halve(-1, true), false);
    }

    /** A shop asks up to the cap, the cap too, or 41; never what lies between. */
    private static void pricesAtTheCap() {
        PriceUpon x = Check.of("n 1;w 0 9 1");
        for (int cap = 0; cap <= 41; cap++) {
            x.law(0, cap, false);
            for (int u : new int[] {0, 8, 9, 10, 300}) {
                int due = u <= Math.min(cap, 9) ? Math.min(cap, 9) : cap >= 10 ? 10 : 41;
                due("asked with " + u + " under " + cap, x.ask(0, 0, u), due);
                due("taken with " + u + " under " + cap, x.take(0, 0, u), u <= Math.min(cap, 9) ? 1 : 0);
            }
        }
    }

    private static void highestPrices() {
        PriceUpon x = Check.of("n 1;w 0 40 1");
        int[][] due = {{41, 40, 40}, {41, 41, 41}, {40, 40, 40}, {40, 41, 41}, {39, 39, 39}, {39, 40, 41}, {0, 0, 0}, {0, 1, 41}};
        for (int[] d : due) {
            x.law(0, d[0], false);
            due("asked with " + d[1] + " under " + d[0], x.ask(0, 0, d[1]), d[2]);
            due("taken with " + d[1] + " under " + d[0], x.take(0, 0, d[1]), d[2] == 41 ? 0 : 1);
        }
    }

    private static void whatIsSpent() {
        PriceUpon x = Check.of("n 2;b 0 1;w 1 9 2");
        due("ask with 0", x.ask(0, 1, 0), 9);
        due("ask with 300", x.ask(0, 1, 300), 10);
        due("take with 0", x.take(0, 1, 0), 2);
        due("take with 300", x.take(0, 1, 300), 0);
        due("take of a maker with 0", x.take(0, 0, 0), 2);
        due("take of a maker with 9", x.take(0, 0, 9), 2);
        due("take of a maker with 10", x.take(0, 0, 10), 0);
        due("take of a maker with 300", x.take(0, 0, 300), 0);
        for (int bad : new int[] {-1, 301, Integer.MIN_VALUE, Integer.MAX_VALUE}) {
            due("ask with " + bad, x.ask(0, 1, bad), -1);
            due("take with " + bad, x.take(0, 1, bad), -1);
            due("take of a maker with " + bad, x.take(0, 0, bad), -1);
        }
        due("ask of no shop", x.ask(0, 0, 0), -1);
        for (int h : new int[] {-1, 2, 8}) {
            due("ask of house " + h, x.ask(0, h, 0), -1);
            due("take of house " + h, x.take(0, h, 0), -1);
        }
        for (int t : new int[] {-1, 1, 10}) {
            due("ask in trade " + t, x.ask(t, 1, 0), -1);
            due("take in trade " + t, x.take(t, 1, 0), -1);
        }
    }

    private static void lowestOfSeveral() {
        // 10 times 1 is 5 times 2
        PriceUpon x = Check.of("n 1;w 0 10 1;w 0 5 1");
        due("of two the lowest", x.ask(0, 0, 0), 5);
        due("one is more", x.ask(0, 0, 1), 10);
        x = Check.of("n 1;w 0 11 1;w 0 5 1");
        due("the higher is more", x.ask(0, 0, 0), 11);
        // with no gain anywhere, the lowest price at which nothing is lost
        due("at its own u", x.ask(0, 0, 11), 11);
        due("above all", x.ask(0, 0, 12), 12);
    }

    /** House 1 takes 4 up to a pay of 4, then 1 up to its buyer's price: 4 times 4 against that price. */
    private static void lowestToOthers() {
        PriceUpon x = Check.of("n 2;b 0 1;w 1 16 1;w 1 7 3");
        paid(x, 1, 4, 4, 12);
        paid(x, 0, 0, 4, 16);
        x = Check.of("n 2;b 0 1;w 1 17 1;w 1 7 3");
        paid(x, 1, 17, 1, 0);
        paid(x, 0, 0, 1, 17);
        x = Check.of("n 2;b 0 1;w 1 15 1;w 1 7 3");
        paid(x, 1, 4, 4, 12);
    }

    private static void nobodyWants() {
        PriceUpon x = Check.of("n 3;b 0 1;b 1 2;c 0 7");
        for (int terms = 0; terms < 4; terms++) {
            x.law(0, 41, (terms & 1) != 0);
            x.halve(0, (terms & 2) != 0);
            paid(x, 1, 0, 0, 0);
            paid(x, 2, 0, 0, 0);
            due("asked of nobody", x.outcome(0, 2, 1), 0);
            due("earned of nobody", x.outcome(0, 0, 3), 0);
            due("nothing is lost", x.sum(0, 2), 0);
        }
    }

    /** House 1 is joined and has spent 60: every price at which 2 would take any loses. */
    private static void onlyTheHighest() {
        for (int terms = 0; terms < 4; terms++) {
            PriceUpon x = Check.of("n 3;b 0 1;b 1 2;c 0 30;c 1 30;w 2 40 1");
            x.join(0, 2);
            x.law(0, 41, (terms & 1) != 0);
            x.halve(0, (terms & 2) != 0);
            paid(x, 1, 30, 0, 0);
            paid(x, 2, 41, 0, 0);
            PriceUpon y = Check.of("n 3;b 0 1;b 1 2;c 0 30;c 1 30;w 2 39 1");
            y.join(0, 2);
            y.law(0, 41, (terms & 1) != 0);
            y.halve(0, (terms & 2) != 0);
            paid(y, 2, 40, 0, 0);
        }
    }

    private static void paidAboveTheHighest() {
        PriceUpon x = Check.of("n 8;b 0 1;b 1 2;b 2 3;b 3 4;b 4 5;b 5 6;b 6 7;c 0 30;c 1 30;c 2 30;c 3 30;c 4 30;c 5 30;c 6 30;c 7 30;w 7 40 1");
        x.join(0, 254);
        for (int h = 0; h < 8; h++) {
            paid(x, h, 30 * h, 0, 0);
        }
        due("asked with 240", x.outcome(0, 7, 1), 41);
        due("ask with 240", x.ask(0, 7, 240), 41);
        x.join(0, 126);
        paid(x, 6, 180, 0, 0);
        paid(x, 7, 11, 0, 0);
        PriceUpon y = Check.of("n 2;b 0 1;c 0 30;c 1 10;w 1 40 1");
        y.join(0, 2);
        paid(y, 1, 30, 1, 0);
        PriceUpon z = Check.of("n 2;b 0 1;c 0 30;c 1 11;w 1 40 1");
        z.join(0, 2);
        paid(z, 1, 30, 0, 0);
    }

    private static void alike() {
        // 4 to four, or 16 to one: the lowest; with 17 the other
        PriceUpon x = Check.of("n 3;b 0 1;b 0 2;w 1 16 1;w 2 4 3");
        x.law(0, 41, true);
        paid(x, 1, 4, 1, 12);
        paid(x, 2, 4, 3, 0);
        paid(x, 0, 0, 4, 16);
        PriceUpon y = Check.of("n 3;b 0 1;b 0 2;w 1 17 1;w 2 4 3");
        y.law(0, 41, true);
        paid(y, 1, 17, 1, 0);
        paid(y, 2, 17, 0, 0);
        paid(y, 0, 0, 1, 17);
        // one that is joined pays u, and counts for nothing in the one price
        y.join(0, 2);
        paid(y, 1, 0, 1, 17);
        paid(y, 2, 4, 3, 0);
        paid(y, 0, 0, 4, 12);
        y.join(0, 6);
        paid(y, 2, 0, 3, 12);
        paid(y, 0, 0, 4, 0);
    }

    private static void joinedOrAlikeOrHalved() {
        PriceUpon x = Check.of("n 3;b 0 1;b 0 2;w 1 16 1;w 2 4 3;c 0 2");
        x.halve(0, true);
        // (x less 2) times (16 less x) is most at 9; 9 times (x less 2) times (4 less x) at 3
        for (int alike = 0; alike < 2; alike++) {
            x.law(0, 41, alike == 1);
            paid(x, 1, 9, 1, 7);
            paid(x, 2, 3, 3, 3);
            x.join(0, 2);
            paid(x, 1, 2, 1, 14);
            paid(x, 2, 3, 3, 3);
            x.join(0, 0);
        }
        x.halve(0, false);
        paid(x, 1, 16, 1, 0);
        paid(x, 2, 16, 0, 0);
    }

    private static void halvedBelowNought() {
        // at 3 house 1 gains nothing and house 0 loses 2: that is below 0, so the next price counts
        PriceUpon x = Check.of("n 2;c 0 5;b 0 1;w 1 3 1");
        x.halve(0, true);
        paid(x, 1, 4, 0, 0);
        // at its own 5 neither loses
        PriceUpon y = Check.of("n 2;c 0 5;b 0 1;w 1 5 1");
        y.halve(0, true);
        paid(y, 1, 5, 1, 0);
        PriceUpon z = Check.of("n 2;c 0 5;b 0 1;w 1 7 1");
        z.halve(0, true);
        paid(z, 1, 6, 1, 1);
        paid(z, 0, 0, 1, 1);
    }

    private static void halvedOfSeveral() {
        // (x less 5) times (8 less x) is 2 at 6 and at 7
        PriceUpon x = Check.of("n 2;c 0 5;b 0 1;w 1 8 1");
        x.halve(0, true);
        paid(x, 1, 6, 1, 2);
        // the gain of 1 is what it earns itself, not what 2 earns that is one with it
        PriceUpon y = Check.of("n 3;b 0 1;b 1 2;w 2 9 1");
        y.halve(0, true);
        y.join(0, 4);
        paid(y, 1, 0, 1, 0);
        paid(y, 2, 0, 1, 9);
        y.join(0, 2);
        paid(y, 1, 0, 1, 4);
        paid(y, 2, 4, 1, 5);
    }

    private static void outcomes() {
        PriceUpon x = Check.of("n 2;b 0 1;c 1 1;w 1 9 2");
        int[][] due = {{0, -1, 2, 16}, {8, 9, 2, 0}};
        for (int h = 0; h < 2; h++) {
            for (int what = 0; what < 4; what++) {
                due("outcome " + h + " " + what, x.outcome(0, h, what), due[h][what]);
                due("outcome of trade 1", x.outcome(1, h, what), HIDDEN);
                due("outcome of trade -1", x.outcome(-1, h, what), HIDDEN);
            }
            for (int what : new int[] {-1, 4, Integer.MIN_VALUE, Integer.MAX_VALUE}) {
                due("outcome " + h + " " + what, x.outcome(0, h, what), HIDDEN);
                due("sum " + what, x.sum(0, what), HIDDEN);
            }
        }
        for (int what = 0; what < 4; what++) {
            due("outcome of house 2", x.outcome(0, 2, what), HIDDEN);
            due("outcome of house -1", x.outcome(0, -1, what), HIDDEN);
            due("sum of trade 1", x.sum(1, what), HIDDEN);
            due("sum of trade -1", x.sum(-1, what), HIDDEN);
        }
        // a house that has not its like in the trade: maker and shop at once
        PriceUpon y = Check.of("n 1;c 0 30;w 0 40 30");
        int[] alone = {0, 40, 30, 300};
        for (int what = 0; what < 4; what++) {
            due("outcome of one alone", y.outcome(0, 0, what), alone[what]);
        }
    }

    private static void savings() {
        PriceUpon x = Check.of("n 2;b 0 1;w 0 40 30;w 1 12 1;w 1 8 1;w 1 7 1;w 1 6 1;w 1 4 1");
        x.join(0, 2);
        // asked are 6: who pays up to 4 does not buy, who pays up to 6 saves nothing
        due("asked", x.outcome(0, 1, 1), 6);
        due("saved", x.sum(0, 3), 6 + 2 + 1);
        x.law(0, 0, false);
        due("saved at a price of 0", x.sum(0, 3), 12 + 8 + 7 + 6 + 4);
        x.law(0, 3, false);
        due("saved under a cap", x.sum(0, 3), 9 + 5 + 4 + 3 + 1);
    }

    private static void together() {
        PriceUpon x = Check.of("n 2;c 0 1;b 0 1;c 1 1;w 1 9 2;w 1 5 3");
        int[][] due = {{41, 15}, {5, 15}, {4, 10}, {3, 5}, {2, 0}, {1, 0}, {0, 0}};
        for (int[] d : due) {
            for (int terms = 0; terms < 8; terms++) {
                x.law(0, d[0], (terms & 1) != 0);
                x.halve(0, (terms & 2) != 0);
                x.join(0, (terms & 4) != 0 ? 2 : 0);
                due("together under " + d[0], x.sum(0, 1), d[1]);
                due("lost under " + d[0], x.sum(0, 2), d[1] - x.sum(0, 0));
            }
        }
        x.law(0, 41, false);
        x.join(0, 2);
        x.halve(0, false);
        due("nothing is lost as one", x.sum(0, 2), 0);
        x.join(0, 0);
        due("one is lost apart", x.sum(0, 2), 1);
    }

    private static void passed() {
        PriceUpon x = Check.of("n 3;b 0 1;w 1 40 1;w 2 9 1;c 2 30");
        x.join(0, 2);
        due("passed none", x.passed(0, 0, 0, 1), 0);
        due("passed thirty", x.passed(0, 0, 30, 1), 0);
        due("passed to another trade's shop", x.passed(0, 0, 30, 2), 0);
        x.law(0, 30, false);
        due("thirty at a cap of 30", x.passed(0, 0, 30, 1), 0);
        x.law(0, 29, false);
        due("thirty above a cap of 29", x.passed(0, 0, 30, 1), 12);
        due("29 at a cap of 29", x.passed(0, 0, 29, 1), 0);
        for (int bad : new int[] {-1, 31, Integer.MIN_VALUE, Integer.MAX_VALUE}) {
            due("passed by " + bad, x.passed(0, 0, bad, 1), HIDDEN);
        }
        for (int h : new int[] {-1, 3, 8}) {
            due("passed by house " + h, x.passed(0, h, 1, 1), HIDDEN);
            due("passed to house " + h, x.passed(0, 1, 1, h), HIDDEN);
        }
        due("passed to no shop", x.passed(0, 1, 1, 0), HIDDEN);
        due("passed in trade 1", x.passed(1, 0, 1, 1), HIDDEN);
        due("passed in trade -1", x.passed(-1, 0, 1, 1), HIDDEN);
        // 30 of its own and 30 more
        x.law(0, 41, false);
        due("passed upon the highest cost", x.passed(0, 2, 30, 2), 0);
        due("the cost stays", x.house(0, 2, 0), 30);
        // 16 to both brings most; without the sister 4 to four brings as much as 16 to one, and the counter falls
        PriceUpon y = Check.of("n 3;b 0 1;b 0 2;w 1 16 1;w 1 7 3;w 2 30 1");
        y.law(0, 41, true);
        due("asked with a sister", y.outcome(0, 1, 1), 16);
        due("passed while she stays", y.passed(0, 2, 15, 1), 0);
        due("passed once she is gone", y.passed(0, 2, 30, 1), -9);
    }

    private static void gains() {
        PriceUpon x = Check.of("n 3;b 0 1;b 0 2;w 1 10 1;w 2 4 3");
        due("gain of a law that is none", x.gain(0, 0), 0);
        due("gain of buyers by none", x.gain(0, -1), 0);
        x.law(0, 41, true);
        int[] due = {-6, 6, 0};
        for (int h = 0; h < 3; h++) {
            due("gain of " + h, x.gain(0, h), due[h]);
        }
        due("gain of buyers", x.gain(0, -1), 0);
        x.law(0, 3, false);
        due("gain of buyers by a cap", x.gain(0, -1), 7 + 3);
        for (int h : new int[] {-2, 3, 8, Integer.MIN_VALUE, Integer.MAX_VALUE}) {
            due("gain of house " + h, x.gain(0, h), HIDDEN);
        }
        for (int h = -1; h < 3; h++) {
            due("gain in trade 1", x.gain(1, h), HIDDEN);
            due("gain in trade -1", x.gain(-1, h), HIDDEN);
        }
        // joined and halved stay: only the cap and one price for all are taken away
        x.join(0, 2);
        x.halve(0, true);
        x.law(0, 41, true);
        for (int h = -1; h < 3; h++) {
            due("gain joined and halved", x.gain(0, h), 0);
        }
    }
}
