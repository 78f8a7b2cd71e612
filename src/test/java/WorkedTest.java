/** Promises 9 to 25, 31 and 32 by trades small enough to be worked out by hand. */
public final class WorkedTest {
    private static final Check check = new Check("WorkedTest");
    // house 1 wants 5 at up to 5, 2 at up to 9; its price is 5 up to a u of 2, 9 from 3 to 9, and 10 above
    private static final String CHAIN = "n 2;c 0 1;b 0 1;c 1 1;w 1 9 2;w 1 5 3;e 0 3;e 1 4";

    public static void main(String[] args) {
        asks();
        joins();
        halves();
        caps();
        alikes();
        passes();
        tells();
        fees();
        parts();
        rivals();
        makers();
        rathers();
        check.end();
    }

    private static void outcome(PriceUpon x, int house, int... want) {
        for (int what = 0; what < 4; what++) {
            check.due("outcome(0, " + house + ", " + what + ")", x.outcome(0, house, what), want[what]);
        }
    }

    private static void asks() {
        PriceUpon x = Check.of(CHAIN);
        int[][] asked = {{0, 5}, {2, 5}, {3, 9}, {9, 9}, {10, 10}, {41, 10}, {300, 10}};
        int[] taken = {5, 5, 2, 2, 0, 0, 0};
        for (int k = 0; k < asked.length; k++) {
            check.due("ask with " + asked[k][0], x.ask(0, 1, asked[k][0]), asked[k][1]);
            check.due("take with " + asked[k][0], x.take(0, 1, asked[k][0]), taken[k]);
        }
        // the maker asks 8 up to a u of 8, so 2 are taken, and none above
        check.due("take of a maker with 8", x.take(0, 0, 8), 2);
        check.due("take of a maker with 9", x.take(0, 0, 9), 0);
        outcome(x, 0, 0, -1, 2, 14);
        outcome(x, 1, 8, 9, 2, 0);
        check.due("sum 0", x.sum(0, 0), 14);
        check.due("sum 1", x.sum(0, 1), 15);
        check.due("sum 2", x.sum(0, 2), 1);
        check.due("sum 3", x.sum(0, 3), 0);
        check.due("gain without a law", x.gain(0, 0), 0);
    }

    private static void joins() {
        PriceUpon x = Check.of(CHAIN);
        check.due("join of a maker", x.join(0, 1), true);
        outcome(x, 1, 8, 9, 2, 0);
        for (int bits = 2; bits <= 3; bits++) {
            check.due("join", x.join(0, bits), true);
            outcome(x, 0, 0, -1, 5, 0);
            outcome(x, 1, 1, 5, 5, 15);
            check.due("sum 2 joined", x.sum(0, 2), 0);
            check.due("sum 3 joined", x.sum(0, 3), 8);
        }
        check.due("join of none", x.join(0, 0), true);
        outcome(x, 1, 8, 9, 2, 0);
        // a joined house pays what the piece has cost, above 41 too
        x = Check.of("n 3;b 0 1;b 1 2;c 0 30;c 1 30;c 2 30;w 2 40 1");
        x.join(0, 6);
        outcome(x, 1, 30, -1, 0, 0);
        outcome(x, 2, 60, 41, 0, 0);
        check.due("take above 41", x.take(0, 0, 300), 0);
    }

    private static void halves() {
        PriceUpon x = Check.of(CHAIN);
        x.halve(0, true);
        // 4 times (x less 1) times (8 less x) is 48 at 4 and at 5
        outcome(x, 0, 0, -1, 2, 6);
        outcome(x, 1, 4, 9, 2, 8);
        x.law(0, 41, true);
        outcome(x, 1, 4, 9, 2, 8);
        check.due("gain halved and alike", x.gain(0, 1), 0);
        x.join(0, 2);
        outcome(x, 1, 1, 5, 5, 15);
        check.due("together is not halved", x.sum(0, 1), 15);
        x.join(0, 0);
        x.halve(0, false);
        outcome(x, 1, 8, 9, 2, 0);
    }

    private static void caps() {
        PriceUpon x = Check.of(CHAIN);
        x.law(0, 6, false);
        check.due("ask under a cap with 4", x.ask(0, 1, 4), 5);
        check.due("ask under a cap with 5", x.ask(0, 1, 5), 6);
        check.due("ask under a cap with 6", x.ask(0, 1, 6), 6);
        check.due("ask under a cap with 7", x.ask(0, 1, 7), 41);
        outcome(x, 0, 0, -1, 5, 10);
        outcome(x, 1, 3, 5, 5, 5);
        check.due("gain 0", x.gain(0, 0), -4);
        check.due("gain 1", x.gain(0, 1), 5);
        check.due("gain of buyers", x.gain(0, -1), 8);
        x.law(0, 0, false);
        check.due("ask under a cap of 0 with 0", x.ask(0, 1, 0), 0);
        check.due("ask under a cap of 0 with 1", x.ask(0, 1, 1), 41);
        check.due("sum 1 under a cap of 0", x.sum(0, 1), 0);
        check.due("sum 2 under a cap of 0", x.sum(0, 2), 0);
    }

    private static void alikes() {
        PriceUpon x = Check.of("n 4;b 0 1;b 0 2;b 0 3;w 1 10 1;w 2 4 3;w 3 20 1");
        outcome(x, 1, 10, 10, 1, 0);
        outcome(x, 3, 20, 20, 1, 0);
        x.law(0, 41, true);
        // 4 to five, 10 to two, 20 to one: 20 each, the lowest counts
        outcome(x, 0, 0, -1, 5, 20);
        outcome(x, 1, 4, 10, 1, 6);
        outcome(x, 2, 4, 4, 3, 0);
        outcome(x, 3, 4, 20, 1, 16);
        x.join(0, 8);
        outcome(x, 3, 0, 20, 1, 20);
        outcome(x, 0, 0, -1, 5, 16);
        check.due("gain alike 0", x.gain(0, 0), -6);
        check.due("gain alike 1", x.gain(0, 1), 6);
        x.join(0, 14);
        outcome(x, 1, 0, 10, 1, 10);
        check.due("together is not alike", x.sum(0, 1), 42);
    }

    private static void passes() {
        PriceUpon x = Check.of(CHAIN);
        check.due("passed apart", x.passed(0, 0, 1, 1), 0);
        x.join(0, 2);
        check.due("passed as one", x.passed(0, 0, 1, 1), 4);
        check.due("passed of its own", x.passed(0, 1, 1, 1), 4);
        check.due("passed none", x.passed(0, 1, 0, 1), 0);
        check.due("passed thirty", x.passed(0, 1, 30, 1), 5);
        x.law(0, 6, false);
        check.due("passed under a cap", x.passed(0, 0, 3, 1), 1);
        check.due("passed away", x.passed(0, 0, 5, 1), 36);
        check.due("the cost stays", x.house(0, 0, 0), 1);
        // a dearer sister moves the one price for all: 9 to both brings 18, above it 9 and 10 no more
        x = Check.of("n 3;b 0 1;b 0 2;w 1 10 1;w 2 9 1");
        x.law(0, 41, true);
        check.due("paid by both", x.outcome(0, 1, 0), 9);
        check.due("passed by a sister", x.passed(0, 2, 9, 1), 0);
        x = Check.of("n 3;b 0 1;b 0 2;w 1 12 1;w 1 2 3;w 2 3 9");
        x.law(0, 41, true);
        check.due("a counter by the sister's price", x.outcome(0, 1, 1), 12);
    }

    private static void tells() {
        PriceUpon x = Check.of(CHAIN);
        check.due("given of nothing told", x.given(0, 0), -5);
        check.due("given of nothing told at the counter", x.given(0, 1), -5);
        check.due("doers of nothing told", x.doers(0), 3);
        x.tell(0, 1, false, 8);
        x.tell(0, 1, true, 9);
        x.law(0, 3, true);
        x.join(0, 2);
        x.halve(0, true);
        check.due("given 0", x.given(0, 0), 14);
        check.due("given 1", x.given(0, 1), 0);
        check.due("doers at rest", x.doers(0), 0);
        x.tell(0, 0, false, 3);
        check.due("given of a maker that pays", x.given(0, 0), 8);
        x.tell(0, 1, true, 5);
        check.due("given 1 below cost", x.given(0, 1), -20);
        check.due("doers: the shop", x.doers(0), 2);
        x.tell(0, 1, true, 10);
        check.due("given 0 of nothing sold", x.given(0, 0), 0);
        check.due("doers: the maker", x.doers(0), 1);
        x.tell(0, 0, true, 7);
        check.due("a counter of no shop counts for nothing", x.given(0, 0), 0);
        // 1 is the told price itself, and no other one earns anything
        x = Check.of("n 2;b 0 1;w 1 1 1");
        x.tell(0, 1, false, 1);
        x.tell(0, 1, true, 2);
        check.due("doers by the same price", x.doers(0), 0);
        x.tell(0, 1, false, 2);
        check.due("doers by another price", x.doers(0), 1);
        // at 4 house 1 would take 4 with two prices of its own, but 1 with one price for both
        x = Check.of("n 4;b 0 1;b 1 2;b 1 3;w 2 10 1;w 3 4 3");
        x.law(0, 41, true);
        int[][] told = {{0, 0}, {10, 0}, {10, 10}, {5, 5}};
        tellAll(x, told);
        check.due("doers by free prices", x.doers(0), 1);
        // who pays too much does better to sell none, at 41
        x = Check.of("n 2;b 0 1;w 1 40 1;c 0 9");
        tellAll(x, new int[][] {{41, 0}, {40, 40}});
        check.due("given at a loss", x.given(0, 0), -10);
        check.due("doers by 41 alone", x.doers(0), 1);
    }

    private static void tellAll(PriceUpon x, int[][] told) {
        for (int h = 0; h < told.length; h++) {
            check.due("tell to pay", x.tell(0, h, false, told[h][0]), true);
            check.due("tell to ask", x.tell(0, h, true, told[h][1]), true);
        }
    }

    private static void fees() {
        PriceUpon x = Check.of(CHAIN);
        x.law(0, 1, true);
        x.halve(0, true);
        check.due("fee 1", x.fee(0, 1, 0), 11);
        check.due("fee 0", x.fee(0, 0, 0), 8);
        check.due("heals", x.fee(0, 0, 1), 1);
        x = Check.of("n 2;c 0 1;b 0 1;c 1 1;w 1 9 2;w 1 5 3;e 1 16");
        check.due("fee below 0", x.fee(0, 1, 0), -1);
        check.due("heals not", x.fee(0, 1, 1), 0);
        x = Check.of("n 3;c 0 1;b 0 1;c 1 1;w 1 9 2;w 1 5 3;e 1 15;w 2 9 1");
        check.due("fee of 0", x.fee(0, 0, 0), 0);
        check.due("fee of another one", x.fee(0, 2, 0), 9);
        x = Check.of("n 3;c 0 1;b 0 1;c 1 1;w 1 9 2;w 1 5 3;e 1 15;w 2 9 1;e 2 9");
        check.due("heals just so", x.fee(0, 1, 1), 1);
        x = Check.of("n 3;c 0 1;b 0 1;c 1 1;w 1 9 2;w 1 5 3;e 1 15;w 2 9 1;e 2 10");
        check.due("heals not of the whole trade", x.fee(0, 1, 1), 0);
        check.due("fee 1 of it", x.fee(0, 1, 0), 0);
    }

    private static void parts() {
        PriceUpon x = Check.of(CHAIN);
        x.law(0, 2, true);
        // 7 times (100 less s) is 300 times (w and 1) or more
        check.due("parts", x.parts(0, 1, -1), 73);
        int[][] pairs = {{0, 0, 13333}, {57, 57, 3833}, {58, 100, 10000}, {72, 114, 7666}};
        for (int[] p : pairs) {
            check.due("parts " + p[0], x.parts(0, 1, p[0]), p[1]);
            check.due("takings " + p[0], x.takings(0, 1, p[0]), p[2]);
        }
        check.due("parts 73", x.parts(0, 1, 73), -1);
        check.due("takings 73", x.takings(0, 1, 73), PriceUpon.HIDDEN);
        x = Check.of("n 2;b 0 1");
        check.due("parts of no buyers", x.parts(0, 1, -1), 4100);
        check.due("the last of these", x.parts(0, 1, 4099), 4099);
        check.due("takings of no buyers", x.takings(0, 1, 4099), 0);
        x = Check.of("n 2;c 0 9;b 0 1;w 1 9 3");
        check.due("takings of no gain", x.takings(0, 1, 0), 0);
    }

    private static void rivals() {
        PriceUpon x = Check.of("n 2;w 0 5 1;w 1 5 1");
        x.law(0, 1, true);
        int[] like = {130, 195, 260};
        int[] unlike = {131, 195, 196};
        check.due("rivals", x.rivals(0, 0, 1, 2, 2, -1), 3);
        check.due("rivals of unlike u", x.rivals(0, 0, 1, 1, 3, -1), 3);
        for (int i = 0; i < 3; i++) {
            check.due("rivals " + i, x.rivals(0, 0, 1, 2, 2, i), like[i]);
            check.due("rivals of unlike u " + i, x.rivals(0, 0, 1, 1, 3, i), unlike[i]);
        }
        check.due("rivals the other way", x.rivals(0, 1, 0, 3, 1, 0), 64 * 3 + 2);
        x = Check.of("n 2;w 0 40 1;w 1 40 1");
        check.due("rivals who can but lose", x.rivals(0, 0, 1, 41, 41, -1), 1);
        check.due("both at 41", x.rivals(0, 0, 1, 41, 41, 0), 64 * 41 + 41);
    }

    private static void makers() {
        PriceUpon x = Check.of("n 3;c 0 1;c 1 2;b 0 2;w 2 6 2");
        x.law(0, 1, true);
        int[] first = {65, 130, 195};
        PriceUpon y = Check.of("n 3;c 0 2;c 1 1;b 0 2;w 2 6 2");
        int[] second = {129, 130, 194};
        int[] third = {66, 130, 131};
        check.due("makers", x.makers(0, 0, 1, 2, -1), 3);
        check.due("makers of the dearer", y.makers(0, 0, 1, 2, -1), 3);
        for (int i = 0; i < 3; i++) {
            check.due("makers " + i, x.makers(0, 0, 1, 2, i), first[i]);
            check.due("makers of the dearer " + i, y.makers(0, 0, 1, 2, i), second[i]);
            check.due("makers the other way " + i, y.makers(0, 1, 0, 2, i), third[i]);
        }
        check.due("makers 3", x.makers(0, 0, 1, 2, 3), -1);
        // a shop may be a maker, and those who offer may be shops
        PriceUpon z = Check.of("n 3;c 2 1;w 2 6 2");
        check.due("makers among shops", z.makers(0, 0, 1, 2, 0), 0);
    }

    private static void rathers() {
        PriceUpon x = Check.of(CHAIN);
        check.due("rather", x.rather(0, 1), 1);
        check.due("rests", x.rests(0, -1), 1);
        check.due("rests 0", x.rests(0, 0), 2);
        x.join(0, 1);
        check.due("rather with a maker's bit", x.rather(0, 1), 1);
        x.join(0, 2);
        check.due("rests hang not on who is joined", x.rests(0, 0), 2);
        // capped at 5, 5 are sold either way, and at 4 each that is 15 for the two
        x.join(0, 0);
        x.law(0, 5, false);
        check.due("rather under a cap", x.rather(0, 1), 0);
        check.due("rests under a cap", x.rests(0, -1), 2);
        x.law(0, 41, false);
        check.due("rests without it", x.rests(0, -1), 1);
        x.halve(0, true);
        check.due("rather halved", x.rather(0, 1), 1);
    }
}
