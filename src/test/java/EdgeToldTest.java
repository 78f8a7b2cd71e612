/** Sections 3 and 4 with promises 18 to 25, each bound from both sides: told prices, fees, parts and rivals. */
public final class EdgeToldTest {
    private static final Check check = new Check("EdgeToldTest");
    private static final int HIDDEN = PriceUpon.HIDDEN;
    private static final int[] NO_PRICES = {-1, 42, Integer.MIN_VALUE, Integer.MAX_VALUE};
    private static final int[] NO_HOUSES = {-1, 2, 8, Integer.MIN_VALUE, Integer.MAX_VALUE};

    public static void main(String[] args) {
        toldAtFirst();
        toldPrices();
        toldTermsCountForNothing();
        othersAskedWithTermsAheadOfIt();
        shopsThatWouldDoOtherwise();
        sellersThatWouldDoOtherwise();
        otherPricesAtTheEnds();
        fees();
        healsJustSo();
        feesOfMakersAlone();
        allParts();
        partsAtTheirLast();
        partsOfSeveral();
        takings();
        rivals();
        rivalsAtTheEnds();
        rivalsWithoutBuyers();
        makers();
        makersAtTheEnds();
        makersWithoutBuyers();
        check.end();
    }

    private static void due(String call, long got, long want) {
        check.due(call, got, want);
    }

    private static PriceUpon told(String text, int... payThenAsk) {
        PriceUpon x = Check.of(text);
        for (int h = 0; h < payThenAsk.length / 2; h++) {
            check.due("tell to pay", x.tell(0, h, false, payThenAsk[2 * h]), true);
            check.due("tell to ask", x.tell(0, h, true, payThenAsk[2 * h + 1]), true);
        }
        return x;
    }

    private static void toldAtFirst() {
        PriceUpon x = Check.of("n 2;b 0 1;c 0 2;c 1 3;w 1 9 4");
        due("given 0 at first", x.given(0, 0), -8);
        due("given 1 at first", x.given(0, 1), -12);
        due("doers at first", x.doers(0), 3);
        PriceUpon y = told("n 2;b 0 1;c 0 2;c 1 3;w 1 9 4", 0, 0, 0, 0);
        due("told 0 is as at first", y.given(0, 0), -8);
        due("told 0 is as at first, at the counter", y.given(0, 1), -12);
    }

    private static void toldPrices() {
        PriceUpon x = Check.of("n 2;b 0 1;w 1 40 2");
        check.due("told to pay 41", x.tell(0, 1, false, 41), true);
        check.due("told to ask 40", x.tell(0, 1, true, 40), true);
        due("given 0", x.given(0, 0), 82);
        due("given 1", x.given(0, 1), -2);
        for (int bad : NO_PRICES) {
            check.due("told to pay " + bad, x.tell(0, 1, false, bad), false);
            check.due("told to ask " + bad, x.tell(0, 1, true, bad), false);
        }
        for (int h : NO_HOUSES) {
            check.due("house " + h + " told to pay", x.tell(0, h, false, 1), false);
            check.due("house " + h + " told to ask", x.tell(0, h, true, 1), false);
            due("given " + h, x.given(0, h), HIDDEN);
        }
        for (int t : new int[] {-1, 1, 10}) {
            check.due("told in trade " + t, x.tell(t, 1, false, 1), false);
            check.due("told to ask in trade " + t, x.tell(t, 1, true, 1), false);
            due("given in trade " + t, x.given(t, 1), HIDDEN);
            due("doers in trade " + t, x.doers(t), -1);
        }
        due("given 0 still", x.given(0, 0), 82);
        due("given 1 still", x.given(0, 1), -2);
        check.due("told to ask 41", x.tell(0, 1, true, 41), true);
        due("given 0 when nobody wants any", x.given(0, 0), 0);
        due("given 1 when nobody wants any", x.given(0, 1), 0);
        check.due("told to pay 0", x.tell(0, 1, false, 0), true);
        check.due("told to ask 0", x.tell(0, 1, true, 0), true);
        due("given of nothing", x.given(0, 0), 0);
        due("given of nothing at the counter", x.given(0, 1), 0);
        // what a maker is told to pay is in its u, and a counter that is none counts for nothing
        check.due("a maker told to pay", x.tell(0, 0, false, 41), true);
        check.due("no shop told to ask", x.tell(0, 0, true, 41), true);
        due("given of a maker that pays 41", x.given(0, 0), -82);
    }

    private static void toldTermsCountForNothing() {
        PriceUpon x = told("n 2;b 0 1;c 0 1;w 1 10 1;w 1 6 1", 0, 0, 8, 10);
        for (int terms = 0; terms < 16; terms++) {
            x.join(0, (terms & 1) != 0 ? 2 : 0);
            x.halve(0, (terms & 2) != 0);
            x.law(0, (terms & 4) != 0 ? 0 : 41, (terms & 8) != 0);
            due("given 0", x.given(0, 0), 7);
            due("given 1", x.given(0, 1), 2);
            due("doers", x.doers(0), 1);
        }
    }

    /** At 4 house 1 would take 4 with a price for each of its own, but 1 with one price for both, and none under a cap. */
    private static void othersAskedWithTermsAheadOfIt() {
        PriceUpon x = told("n 4;b 0 1;b 1 2;b 1 3;w 2 10 1;w 3 4 3", 0, 0, 10, 0, 10, 10, 5, 5);
        for (int round = 0; round < 2; round++) {
            x.law(0, round == 0 ? 41 : 0, true);
            x.halve(0, round == 1);
            x.rather(0, 1);
            due("doers behind rather", x.doers(0), 1);
            x.gain(0, 1);
            x.passed(0, 1, 30, 2);
            due("doers behind passed", x.doers(0), 1);
            x.rests(0, -1);
            due("doers behind rests", x.doers(0), 1);
            due("fee behind doers", x.fee(0, 0, 0), 22);
        }
    }

    private static void shopsThatWouldDoOtherwise() {
        // 10 times 1 is 5 times 2
        int[][] due = {{0, 1}, {4, 1}, {5, 0}, {6, 1}, {9, 1}, {10, 0}, {11, 1}, {41, 1}};
        for (int[] d : due) {
            PriceUpon x = told("n 1;w 0 10 1;w 0 5 1", 0, d[0]);
            due("doers asking " + d[0], x.doers(0), d[1]);
        }
        // with a u of 10 nothing can be earned: to sell none is as good as to sell at 10
        int[][] dear = {{9, 1}, {10, 0}, {11, 0}, {41, 0}};
        for (int[] d : dear) {
            PriceUpon x = told("n 1;w 0 10 1;w 0 5 1", 10, d[0]);
            due("doers that paid 10 asking " + d[0], x.doers(0), d[1]);
        }
        PriceUpon y = told("n 1;w 0 40 1", 41, 40);
        due("doers by 41 alone", y.doers(0), 1);
        y.tell(0, 0, true, 41);
        due("doers at 41", y.doers(0), 0);
        y.tell(0, 0, false, 39);
        due("doers by 40 alone", y.doers(0), 1);
        y.tell(0, 0, false, 40);
        due("doers by no more than 0", y.doers(0), 0);
    }

    /** House 1 would take 4 up to a pay of 4, and 1 up to 16. */
    private static void sellersThatWouldDoOtherwise() {
        String text = "n 2;b 0 1;w 1 16 1;w 1 7 3";
        int[][] due = {{16, 16, 0}, {15, 16, 1}, {4, 7, 0}, {3, 7, 1}, {5, 7, 2}, {16, 7, 2}};
        for (int[] d : due) {
            PriceUpon x = told(text, 0, 0, d[0], d[1]);
            due("doers paying " + d[0] + " asking " + d[1], x.doers(0), d[2]);
        }
        // what is earned by one and lost by another one is not summed: each B stands by itself
        PriceUpon y = told("n 3;b 0 1;b 0 2;w 1 9 1;w 2 9 1", 0, 0, 9, 9, 8, 9);
        due("doers by one of two", y.doers(0), 1);
        y.tell(0, 2, false, 9);
        due("doers by none of two", y.doers(0), 0);
    }

    private static void otherPricesAtTheEnds() {
        // 1 takes none as told; at 40 it would take one
        PriceUpon x = told("n 2;b 0 1;w 1 40 1", 39, 0, 41, 41);
        due("doers by 40 alone", x.doers(0), 1);
        x.tell(0, 0, false, 40);
        due("doers by no more than 0", x.doers(0), 0);
        // 1 takes one as told, at a loss to 0; at 41 it would take none
        PriceUpon y = told("n 2;b 0 1;w 1 40 1", 41, 0, 40, 40);
        due("doers by 41 alone", y.doers(0), 1);
        // the told price is no other one: at 40 house 1 would take one, but is told to take none
        PriceUpon z = told("n 2;b 0 1;w 1 40 1", 39, 0, 40, 41);
        due("doers by the told price", z.doers(0), 0);
    }

    private static void fees() {
        PriceUpon x = Check.of("n 4;b 0 1;b 0 2;c 0 1;w 1 9 1;w 2 5 1;w 3 7 1;e 0 1;e 1 2;e 2 4;e 3 8");
        int[] due = {8 + 4 - 7, 6, 0, -1};
        for (int h = 0; h < 4; h++) {
            due("fee of " + h, x.fee(0, h, 0), due[h]);
            due("heals, asked of " + h, x.fee(0, h, 1), 1);
            for (int what : new int[] {-1, 2, Integer.MIN_VALUE, Integer.MAX_VALUE}) {
                due("fee what " + what, x.fee(0, h, what), HIDDEN);
            }
        }
        for (int what = 0; what < 2; what++) {
            for (int h : new int[] {-1, 4, 8}) {
                due("fee of house " + h, x.fee(0, h, what), HIDDEN);
            }
            for (int t : new int[] {-1, 1, 10}) {
                due("fee in trade " + t, x.fee(t, 0, what), HIDDEN);
            }
        }
        // no cap counts, nor any other term, nor what is told
        x.law(0, 0, true);
        x.halve(0, true);
        x.tell(0, 1, true, 41);
        for (int h = 0; h < 4; h++) {
            due("fee without terms", x.fee(0, h, 0), due[h]);
        }
    }

    private static void healsJustSo() {
        for (int other = 8; other <= 10; other++) {
            PriceUpon x = Check.of("n 2;b 0 1;w 1 9 1;e 1 " + other);
            due("heals with " + other, x.fee(0, 0, 1), other <= 9 ? 1 : 0);
            due("fee with " + other, x.fee(0, 0, 0), 9 - other);
            PriceUpon y = Check.of("n 2;b 0 1;w 1 9 1;e 0 " + other);
            due("heals with " + other + " above", y.fee(0, 1, 1), other <= 9 ? 1 : 0);
            due("fee with " + other + " above", y.fee(0, 0, 0), 9 - other);
            due("fee below it", y.fee(0, 1, 0), 9);
        }
    }

    private static void feesOfMakersAlone() {
        PriceUpon x = Check.of("n 2;w 0 40 30;c 0 30;e 1 99");
        due("fee of one alone", x.fee(0, 0, 0), 300);
        due("fee of one without buyers", x.fee(0, 1, 0), -99);
        due("heals of both", x.fee(0, 1, 1), 1);
    }

    /** Nobody wants any: 0 is asked together, and with every pair of a price of 0 to 40 and a part of 0 to 99. */
    private static void allParts() {
        PriceUpon x = Check.of("n 2;b 0 1");
        due("all pairs", x.parts(0, 1, -1), 4100);
        for (int i : new int[] {0, 1, 99, 100, 4098, 4099}) {
            due("pair " + i, x.parts(0, 1, i), i);
            due("takings of pair " + i, x.takings(0, 1, i), 0);
        }
        for (int i : new int[] {-2, 4100, Integer.MIN_VALUE, Integer.MAX_VALUE}) {
            due("pair " + i, x.parts(0, 1, i), -1);
            due("takings of pair " + i, x.takings(0, 1, i), HIDDEN);
        }
        due("takings of NONE", x.takings(0, 1, -1), HIDDEN);
        for (int i = -1; i < 1; i++) {
            due("parts of no shop", x.parts(0, 0, i), -1);
            due("takings of no shop", x.takings(0, 0, i), HIDDEN);
            due("parts of house 2", x.parts(0, 2, i), -1);
            due("takings of house 2", x.takings(0, 2, i), HIDDEN);
            due("parts of house -1", x.parts(0, -1, i), -1);
            due("takings of house -1", x.takings(0, -1, i), HIDDEN);
            due("parts in trade 1", x.parts(1, 1, i), -1);
            due("takings in trade 1", x.takings(1, 1, i), HIDDEN);
            due("parts in trade -1", x.parts(-1, 1, i), -1);
            due("takings in trade -1", x.takings(-1, 1, i), HIDDEN);
        }
        PriceUpon y = Check.of("n 1;w 0 9 1");
        due("parts of a maker", y.parts(0, 0, -1), -1);
        due("takings of a maker", y.takings(0, 0, 0), HIDDEN);
    }

    /** One buyer up to 40: 40 is asked while a hundred less s, of 40, is no less than w; at no gain too, as 41 is higher. */
    private static void partsAtTheirLast() {
        PriceUpon x = Check.of("n 2;b 0 1;c 0 20;w 1 40 1");
        int i = 0;
        for (int w = 0; w <= 40; w++) {
            for (int s = 0; s <= 99; s++) {
                if ((100 - s) * 40 >= 100 * w) {
                    if (s < 2 || s > 97 || w > 38) {
                        due("pair " + i, x.parts(0, 1, i), 100 * w + s);
                        due("takings of pair " + i, x.takings(0, 1, i), 10000 * ((100 - s) * 40 - 100 * w) / 2000);
                    }
                    i++;
                }
            }
        }
        due("pairs", x.parts(0, 1, -1), i);
        due("the last pair", x.parts(0, 1, i - 1), 4000);
        due("takings of the last", x.takings(0, 1, i - 1), 0);
        due("behind the last pair", x.parts(0, 1, i), -1);
        due("takings behind the last", x.takings(0, 1, i), HIDDEN);
    }

    private static void partsOfSeveral() {
        // 5 is asked together; with a part of 0, 10 and 5 bring as much at no cost, so 5 is asked, and 10 at any other
        PriceUpon x = Check.of("n 2;b 0 1;w 1 10 1;w 1 5 1");
        due("pairs with a w of 0", x.parts(0, 1, -1), 100);
        due("the last of them", x.parts(0, 1, 99), 99);
        // 10 is asked together, with a cost of 1 at the maker: so w of 1 and more, while there is a gain
        PriceUpon y = Check.of("n 2;b 0 1;c 0 1;w 1 10 1;w 1 5 1");
        int i = 0;
        for (int w = 1; w <= 10; w++) {
            for (int s = 0; s <= 99; s++) {
                i += (100 - s) * 10 >= 100 * w ? 1 : 0;
            }
        }
        due("pairs with a w above 0", y.parts(0, 1, -1), i);
        due("the first of them", y.parts(0, 1, 0), 100);
        due("the last of them", y.parts(0, 1, i - 1), 1000);
        // no cap counts
        y.law(0, 3, true);
        due("pairs under a cap", y.parts(0, 1, -1), i);
    }

    private static void takings() {
        // what there is to divide by: 300; with w 0 and s 0 the shop has 500
        PriceUpon x = Check.of("n 2;b 0 1;c 0 2;w 1 5 1");
        due("takings, cut", x.takings(0, 1, 0), 16666);
        due("takings with a part of 99", x.takings(0, 1, 99), 166);
        // the price is all cost
        PriceUpon y = Check.of("n 2;b 0 1;c 0 5;w 1 5 1");
        due("pairs of no gain", y.parts(0, 1, 0), 0);
        due("takings of no gain", y.takings(0, 1, 0), 0);
        // the cost is above every price: nobody buys
        PriceUpon z = Check.of("n 2;b 0 1;c 0 6;w 1 5 1");
        due("pairs at which nobody buys", z.parts(0, 1, -1) > 0 ? 1 : 0, 1);
        due("takings of nobody", z.takings(0, 1, 0), 0);
        due("the highest takings", Check.of("n 2;b 0 1;c 0 30;c 1 9;w 1 40 30").takings(0, 1, 0), 310000);
    }

    private static void rivals() {
        PriceUpon x = Check.of("n 4;b 0 1;w 1 5 1;w 2 5 1;w 3 9 2");
        int[] due = {65, 130, 195};
        due("rests of two", x.rivals(0, 1, 2, 1, 1, -1), 3);
        for (int i = 0; i < 3; i++) {
            due("rest " + i, x.rivals(0, 1, 2, 1, 1, i), due[i]);
        }
        for (int i : new int[] {-2, 3, Integer.MIN_VALUE, Integer.MAX_VALUE}) {
            due("rest " + i, x.rivals(0, 1, 2, 1, 1, i), -1);
        }
        for (int u : new int[] {0, 41}) {
            due("u " + u, x.rivals(0, 1, 2, u, 1, -1) >= 0 ? 1 : 0, 1);
            due("v " + u, x.rivals(0, 1, 2, 1, u, -1) >= 0 ? 1 : 0, 1);
        }
        for (int i = -1; i < 1; i++) {
            for (int u : NO_PRICES) {
                due("u " + u, x.rivals(0, 1, 2, u, 1, i), -1);
                due("v " + u, x.rivals(0, 1, 2, 1, u, i), -1);
            }
            due("no shop", x.rivals(0, 0, 2, 1, 1, i), -1);
            due("no shop as the other", x.rivals(0, 2, 0, 1, 1, i), -1);
            due("alike", x.rivals(0, 2, 2, 1, 1, i), -1);
            for (int h : new int[] {-1, 4, 8}) {
                due("house " + h, x.rivals(0, h, 2, 1, 1, i), -1);
                due("house " + h + " as the other", x.rivals(0, 2, h, 1, 1, i), -1);
            }
            due("trade 1", x.rivals(1, 1, 2, 1, 1, i), -1);
            due("trade -1", x.rivals(-1, 1, 2, 1, 1, i), -1);
        }
    }

    /** Both can but lose below 41, and neither has a better price than the other's loss would be. */
    private static void rivalsAtTheEnds() {
        PriceUpon x = Check.of("n 2;w 0 40 1;w 1 40 1");
        due("rests of the dearest", x.rivals(0, 0, 1, 41, 41, -1), 1);
        due("both at 41", x.rivals(0, 0, 1, 41, 41, 0), 64 * 41 + 41);
        due("one of them can sell at 40", x.rivals(0, 0, 1, 40, 41, -1) > 1 ? 1 : 0, 1);
        // without cost both go down to 0, or stop at 1 or 2 where half of it is as good as all below
        int[] due = {0, 65, 130};
        due("rests of the cheapest", x.rivals(0, 0, 1, 0, 0, -1), 3);
        for (int i = 0; i < 3; i++) {
            due("rest " + i, x.rivals(0, 0, 1, 0, 0, i), due[i]);
        }
    }

    private static void rivalsWithoutBuyers() {
        PriceUpon x = Check.of("n 2");
        due("all pairs", x.rivals(0, 0, 1, 0, 41, -1), 1764);
        due("the first", x.rivals(0, 0, 1, 0, 41, 0), 0);
        due("the first of 41", x.rivals(0, 0, 1, 0, 41, 41), 41);
        due("the first of the second row", x.rivals(0, 0, 1, 0, 41, 42), 64);
        due("the last", x.rivals(0, 0, 1, 0, 41, 1763), 64 * 41 + 41);
        due("behind the last", x.rivals(0, 0, 1, 0, 41, 1764), -1);
    }

    private static void makers() {
        PriceUpon x = Check.of("n 4;c 0 1;c 1 2;b 0 2;w 2 6 2");
        int[] due = {65, 130, 195};
        due("rests of two", x.makers(0, 0, 1, 2, -1), 3);
        for (int i = 0; i < 3; i++) {
            due("rest " + i, x.makers(0, 0, 1, 2, i), due[i]);
        }
        for (int i : new int[] {-2, 3, Integer.MIN_VALUE, Integer.MAX_VALUE}) {
            due("rest " + i, x.makers(0, 0, 1, 2, i), -1);
        }
        for (int i = -1; i < 1; i++) {
            due("no shop", x.makers(0, 1, 2, 0, i), -1);
            due("one is the shop", x.makers(0, 2, 1, 2, i), -1);
            due("the other is the shop", x.makers(0, 1, 2, 2, i), -1);
            due("alike", x.makers(0, 1, 1, 2, i), -1);
            for (int h : new int[] {-1, 4, 8}) {
                due("house " + h, x.makers(0, h, 1, 2, i), -1);
                due("house " + h + " as the other", x.makers(0, 1, h, 2, i), -1);
                due("house " + h + " as the shop", x.makers(0, 0, 1, h, i), -1);
            }
            due("trade 1", x.makers(1, 0, 1, 2, i), -1);
            due("trade -1", x.makers(-1, 0, 1, 2, i), -1);
        }
        // no terms count
        x.law(0, 0, true);
        x.halve(0, true);
        x.join(0, 4);
        due("rests under terms", x.makers(0, 0, 1, 2, -1), 3);
    }

    /** Of like prices that of the lower house is taken, whichever is named first. */
    private static void makersAtTheEnds() {
        PriceUpon x = Check.of("n 3;w 2 40 1");
        // without cost: at 1 the lower house has all and the higher none below; at 0 the higher sells, and can win nothing
        int[] lowerFirst = {0, 64, 65};
        int[] higherFirst = {0, 1, 65};
        due("rests of two without cost", x.makers(0, 0, 1, 2, -1), 3);
        due("rests of two, the other way", x.makers(0, 1, 0, 2, -1), 3);
        for (int i = 0; i < 3; i++) {
            due("rest " + i, x.makers(0, 0, 1, 2, i), lowerFirst[i]);
            due("rest " + i + " the other way", x.makers(0, 1, 0, 2, i), higherFirst[i]);
        }
        // a shop whose cost is 30 takes up to a price of 10, at 11 none
        PriceUpon y = Check.of("n 3;c 0 9;c 1 11;c 2 30;w 2 40 1");
        due("the rest at 10", y.makers(0, 0, 1, 2, -1) > 0 ? y.makers(0, 0, 1, 2, y.makers(0, 0, 1, 2, -1) - 1) : -1, 64 * 10 + 41);
    }

    private static void makersWithoutBuyers() {
        PriceUpon x = Check.of("n 3");
        due("all pairs", x.makers(0, 0, 1, 2, -1), 1764);
        due("the last", x.makers(0, 0, 1, 2, 1763), 64 * 41 + 41);
        due("behind the last", x.makers(0, 0, 1, 2, 1764), -1);
    }
}
