import java.util.NoSuchElementException;

/** All that later calls tell of an object, as one text. It uses up the object, and stays well below 512 calls. */
final class Snapshot {
    /** What stands for the exception that house throws. */
    static final int THROWN = -777;

    private final PriceUpon x;
    private final StringBuilder told = new StringBuilder();
    private int calls = 0;

    private Snapshot(PriceUpon x) {
        this.x = x;
    }

    static String of(PriceUpon x) {
        Snapshot s = new Snapshot(x);
        for (int what = 0; what < 3; what++) {
            s.add(x.count(what));
        }
        s.chances();
        int trades = x.count(0);
        for (int t = 0; t < Math.min(2, trades); t++) {
            s.text(t);
            s.terms(t);
            s.told(t);
        }
        for (int t = 2; t <= 10; t++) {
            s.add(x.houses(t));
            s.add(house(x, t, 0, 0));
        }
        s.tape(trades);
        if (s.calls > 480) {
            throw new IllegalStateException("a snapshot of " + s.calls + " calls");
        }
        return s.told.toString();
    }

    static int house(PriceUpon x, int trade, int house, int what) {
        try {
            return x.house(trade, house, what);
        } catch (NoSuchElementException e) {
            return THROWN;
        }
    }

    private void add(int answer) {
        told.append(answer).append(' ');
        calls++;
    }

    private void chances() {
        for (int q = 0; q <= 60; q += 12) {
            add(x.expects(41, 20, 3, q));
        }
        add(x.stock(41, 20, 3));
        add(x.seller(30, 20, 3, 0));
        add(x.seller(30, 20, 3, 1));
    }

    private void text(int t) {
        int n = x.houses(t);
        add(n);
        for (int h = 0; h < n; h++) {
            for (int what = 0; what < 5; what++) {
                add(house(x, t, h, what));
            }
            for (int p = 1; p <= 9; p += 4) {
                add(x.want(t, h, p));
            }
            add(x.fee(t, h, 0));
            add(x.parts(t, h, -1));
            add(x.takings(t, h, 9));
        }
        add(x.fee(t, 0, 1));
        add(x.rivals(t, n - 1, n - 2, 2, 3, -1));
        add(x.makers(t, 0, 1, n - 1, -1));
    }

    /** As it is, then with each term taken away: so that one tells itself that another one covers. */
    private void terms(int t) {
        int n = x.houses(t);
        for (int h = 0; h < n; h++) {
            add(x.ask(t, h, 2));
            add(x.take(t, h, 2));
            add(x.outcome(t, h, 1));
            add(x.outcome(t, h, 2));
            add(x.passed(t, 0, 3, h));
            add(x.gain(t, h));
            add(x.rather(t, h));
        }
        add(x.gain(t, -1));
        add(x.rests(t, -1));
        add(x.rests(t, 1));
        for (int what = 0; what < 4; what++) {
            add(x.sum(t, what));
        }
        outcomes(t, n);
        x.halve(t, false);
        outcomes(t, n);
        x.join(t, 0);
        outcomes(t, n);
        calls += 2;
    }

    private void outcomes(int t, int n) {
        for (int h = 0; h < n; h++) {
            add(x.outcome(t, h, 0));
            add(x.outcome(t, h, 3));
        }
    }

    private void told(int t) {
        int n = x.houses(t);
        for (int h = 0; h < n; h++) {
            add(x.given(t, h));
        }
        add(x.doers(t));
    }

    /** Where each shorter tape has its fault tells which bytes it holds. */
    private void tape(int trades) {
        add(x.fault());
        if (trades < 10) {
            int length = x.count(2);
            add(x.trade());
            add(house(x, trades, 0, 0));
            add(house(x, trades, 1, 0));
            add(house(x, trades, 1, 1));
            add(x.want(trades, 1, 5));
            if (x.count(2) < length) {
                return;
            }
        }
        for (int n = x.count(2); n >= 0; n -= 7) {
            x.end(n);
            add(x.fault());
            calls++;
        }
    }
}
