import java.util.Random;

/** Calls with odd arguments and ordinary ones: those that may change an object, and those that only ask. */
final class Calls {
    private static final int[] ODD = {Integer.MIN_VALUE, Integer.MIN_VALUE + 1, -100000000, -301, -64, -42, -2, -1, 0, 1, 2, 3, 4, 5, 6, 7,
        8, 9, 10, 11, 12, 15, 16, 29, 30, 31, 32, 33, 39, 40, 41, 42, 43, 59, 60, 61, 63, 64, 98, 99, 100, 127, 128, 255, 256, 299, 300,
        301, 4099, 4100, 1000000, Integer.MAX_VALUE - 1, Integer.MAX_VALUE};
    private static final String[] TEXTS = {"n 8;b 0 1;b 1 2;b 2 3;b 3 4;b 4 5;b 5 6;b 6 7;w 7 40 30;w 7 20 30;c 0 30;c 7 30", "n 1",
        "n 8;b 0 1;b 0 2;b 0 3;b 1 4;b 1 5;b 2 6;b 3 7;w 4 9 9;w 5 30 4;w 6 6 6;w 7 40 2;c 1 1;e 4 99", "n 3;b 0 1;b 1 2;w 2 40 30;w 0 1 1",
        "n 2;b 0 1;w 1 10 1;w 1 8 1;w 1 6 1;c 0 2;e 1 3", "n 9", "n 4;w 0 5 1;w 1 5 1;w 2 7 7;w 3 40 30",
        "n 6;b 0 1;b 0 2;b 1 3;b 1 4;b 2 5;w 3 20 2;w 3 11 3;w 4 8 9;w 5 30 1;w 5 12 4;c 1 2;c 5 1;e 3 9;e 0 20",
        "n 4;b 0 1;b 0 2;b 0 3;w 1 16 1;w 1 7 3;w 2 12 2;w 2 5 4;w 3 30 1;c 0 1"};

    private Calls() {
    }

    private static int odd(Random r) {
        return r.nextInt(3) == 0 ? ODD[r.nextInt(ODD.length)] : r.nextInt(8);
    }

    private static int trade(Random r) {
        return r.nextInt(8) == 0 ? odd(r) : r.nextInt(4);
    }

    private static int is(boolean b) {
        return b ? 1 : 0;
    }

    static int change(PriceUpon x, Random r) {
        int t = trade(r);
        int b = odd(r);
        int c = odd(r);
        switch (r.nextInt(12)) {
            case 0:
                return x.feed(r.nextInt(), r.nextInt(), b, c, odd(r));
            case 1:
                return is(x.end(b));
            case 2:
                return x.trade();
            case 3:
                return is(x.join(t, r.nextInt(2) == 0 ? r.nextInt(256) : b));
            case 4:
                return is(x.join(t, r.nextInt(16)));
            case 5:
                return is(x.law(t, r.nextInt(2) == 0 ? r.nextInt(42) : b, r.nextBoolean()));
            case 6:
                return is(x.halve(t, r.nextBoolean()));
            case 7:
                return is(x.tell(t, b, r.nextBoolean(), r.nextInt(2) == 0 ? r.nextInt(42) : c));
            case 8:
                return x.chance(r.nextInt(2) == 0 ? r.nextInt(61) : b, c);
            case 9:
                return r.nextInt(6) == 0 ? x.clear() : 0;
            default:
                Check.type(x, TEXTS[r.nextInt(TEXTS.length)]);
                return x.trade();
        }
    }

    static int question(PriceUpon x, Random r) {
        int a = trade(r);
        int b = odd(r);
        int c = odd(r);
        int d = odd(r);
        int e = odd(r);
        int f = r.nextBoolean() ? r.nextInt(3) - 1 : c;
        switch (r.nextInt(25)) {
            case 0: return x.fault();
            case 1: return Snapshot.house(x, a, b, c);
            case 2: return x.houses(a);
            case 3: return x.want(a, b, c);
            case 4: return x.ask(a, b, c);
            case 5: return x.take(a, b, c);
            case 6: return x.outcome(a, b, c);
            case 7: return x.sum(a, r.nextInt(5));
            case 8: return x.passed(a, b, c, d);
            case 9: return x.gain(a, b);
            case 10: return x.given(a, b);
            case 11: return x.doers(a);
            case 12: return x.fee(a, b, r.nextInt(3));
            case 13: return x.parts(a, b, f);
            case 14: return x.takings(a, b, f);
            case 15: return x.rivals(a, b, c, d, e, r.nextInt(3) - 1);
            case 16: return x.makers(a, b, c, d, f);
            case 17: return x.expects(b, c, d, e);
            case 18: return x.stock(b, c, d);
            case 19: return x.seller(b, c, d, r.nextInt(3));
            case 20: return x.rather(a, b);
            case 21: return x.rests(a, f);
            case 22: return x.outcome(a, r.nextInt(8), r.nextInt(4));
            case 23: return x.rather(a, r.nextInt(8));
            default: return x.count(b);
        }
    }
}
