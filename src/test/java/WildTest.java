import java.util.NoSuchElementException;
import java.util.Random;

/** Any arguments in any state: nothing but the document's exception comes out, and the same calls answer the same. */
public final class WildTest {
    private static final Check check = new Check("WildTest");
    private static final int[] ODD = {Integer.MIN_VALUE, Integer.MIN_VALUE + 1, -100000000, -301, -64, -42, -2, -1, 0, 1, 2, 3, 4, 5, 6, 7,
        8, 9, 10, 11, 12, 15, 16, 29, 30, 31, 32, 33, 39, 40, 41, 42, 43, 59, 60, 61, 63, 64, 98, 99, 100, 127, 128, 255, 256, 299, 300,
        301, 4099, 4100, 1000000, Integer.MAX_VALUE - 1, Integer.MAX_VALUE};
    private static final String[] TEXTS = {"n 8;b 0 1;b 1 2;b 2 3;b 3 4;b 4 5;b 5 6;b 6 7;w 7 40 30;w 7 20 30;c 0 30;c 7 30", "n 1",
        "n 8;b 0 1;b 0 2;b 0 3;b 1 4;b 1 5;b 2 6;b 3 7;w 4 9 9;w 5 30 4;w 6 6 6;w 7 40 2;c 1 1;e 4 99", "n 3;b 0 1;b 1 2;w 2 40 30;w 0 1 1",
        "n 2;b 0 1;w 1 10 1;w 1 8 1;w 1 6 1;c 0 2;e 1 3", "n 9", "n 4;w 0 5 1;w 1 5 1;w 2 7 7;w 3 40 30"};

    public static void main(String[] args) {
        for (int seed = 0; seed < 400; seed++) {
            check.due("the same calls answer the same, seed " + seed, run(seed), run(seed));
        }
        check.end();
    }

    private static long run(int seed) {
        Random random = new Random(seed);
        PriceUpon x = new PriceUpon();
        long all = 0;
        for (int call = 0; call < 512; call++) {
            if (random.nextInt(12) == 0) {
                Check.type(x, TEXTS[random.nextInt(TEXTS.length)]);
                all = all * 31 + x.trade();
            }
            all = all * 31 + call(x, random);
        }
        return all;
    }

    private static int odd(Random r) {
        return r.nextInt(3) == 0 ? ODD[r.nextInt(ODD.length)] : r.nextInt(8);
    }

    private static int is(boolean b) {
        return b ? 1 : 0;
    }

    private static int call(PriceUpon x, Random r) {
        int a = r.nextInt(8) == 0 ? odd(r) : r.nextInt(4);
        int b = odd(r);
        int c = odd(r);
        int d = odd(r);
        int e = odd(r);
        int f = r.nextInt(3) - 1;
        switch (r.nextInt(32)) {
            case 0: return x.feed(r.nextInt(), r.nextInt(), b, c, d);
            case 1: return is(x.end(b));
            case 2: return x.fault();
            case 3: return x.trade();
            case 4: return x.houses(a);
            case 5: return x.want(a, b, c);
            case 6: return is(x.join(a, r.nextInt(2) == 0 ? r.nextInt(256) : b));
            case 7: return is(x.law(a, b, r.nextBoolean()));
            case 8: return is(x.halve(a, r.nextBoolean()));
            case 9: return x.ask(a, b, c);
            case 10: return x.take(a, b, c);
            case 11: return x.outcome(a, b, c);
            case 12: return x.sum(a, b);
            case 13: return x.passed(a, b, c, d);
            case 14: return x.gain(a, b);
            case 15: return is(x.tell(a, b, r.nextBoolean(), c));
            case 16: return x.given(a, b);
            case 17: return x.doers(a);
            case 18: return x.fee(a, b, c);
            case 19: return x.parts(a, b, r.nextBoolean() ? f : c);
            case 20: return x.takings(a, b, r.nextBoolean() ? f : c);
            case 21: return x.rivals(a, b, c, d, e, f);
            case 22: return x.makers(a, b, c, d, r.nextBoolean() ? f : e);
            case 23: return x.chance(b, c);
            case 24: return r.nextInt(20) == 0 ? x.clear() : x.count(b);
            case 25: return x.expects(b, c, d, e);
            case 26: return x.stock(b, c, d);
            case 27: return x.seller(b, c, d, e);
            case 28: return x.rather(a, b);
            case 29: return x.rests(a, r.nextBoolean() ? f : c);
            case 30: return x.count(b);
            default: return house(x, a, b, c);
        }
    }

    private static int house(PriceUpon x, int a, int b, int c) {
        try {
            return x.house(a, b, c);
        } catch (NoSuchElementException e) {
            return -7;
        }
    }
}
