import java.util.NoSuchElementException;

/** What the tests share: counting wrong answers, and feeding texts. */
final class Check {
    private final String name;
    private int wrong = 0;
    private int calls = 0;

    Check(String name) {
        this.name = name;
    }

    void due(String call, long got, long want) {
        calls++;
        if (got != want) {
            wrong++;
            if (wrong <= 40) {
                System.out.println(name + ": " + call + " answered " + got + ", due is " + want);
            }
        }
    }

    void due(String call, boolean got, boolean want) {
        due(call, got ? 1 : 0, want ? 1 : 0);
    }

    void refusesHouse(PriceUpon x, int trade, int house, int what) {
        boolean thrown = false;
        try {
            x.house(trade, house, what);
        } catch (NoSuchElementException e) {
            thrown = true;
        }
        due("house(" + trade + ", " + house + ", " + what + ") throws", thrown, true);
    }

    /** A text on an object of its own: its fault (NONE where it is right), and that it is a trade only then. */
    void reads(String text, int fault) {
        PriceUpon x = new PriceUpon();
        type(x, text);
        due("fault of '" + text + "'", x.fault(), fault);
        due("trade of '" + text + "'", x.trade(), fault == -1 ? 0 : -1);
        due("count(2) after '" + text + "'", x.count(2), fault == -1 ? 0 : text.length());
        due("count(0) after '" + text + "'", x.count(0), fault == -1 ? 1 : 0);
    }

    /** Puts a text on the tape as it is, whatever stood there. */
    static void type(PriceUpon x, String text) {
        x.end(0);
        for (int from = 0; from < text.length(); from += 20) {
            int[] five = new int[5];
            for (int k = 0; k < 20; k++) {
                int sign = from + k < text.length() ? text.charAt(from + k) : 0;
                five[k / 4] |= sign << 24 - 8 * (k % 4);
            }
            x.feed(five[0], five[1], five[2], five[3], five[4]);
        }
    }

    static PriceUpon of(String text) {
        PriceUpon x = new PriceUpon();
        type(x, text);
        if (x.trade() != 0) {
            throw new IllegalArgumentException("no trade: " + text);
        }
        return x;
    }

    void end() {
        System.out.println(name + ": " + calls + " answers, " + wrong + " wrong");
        if (wrong != 0 || calls == 0) {
            System.exit(1);
        }
    }
}
