/** Promises 1 to 8 and 33: the tape, texts and their faults, what a trade holds. */
public final class TextTest {
    private static final Check check = new Check("TextTest");

    public static void main(String[] args) {
        newObject();
        feeding();
        ending();
        faults();
        numbers();
        lots();
        trades();
        houses();
        wants();
        counts();
        check.end();
    }

    private static void newObject() {
        PriceUpon x = new PriceUpon();
        check.due("count(0) anew", x.count(0), 0);
        check.due("count(1) anew", x.count(1), 0);
        check.due("count(2) anew", x.count(2), 0);
        check.due("houses(0) anew", x.houses(0), -1);
        check.refusesHouse(x, 0, 0, 0);
    }

    private static void feeding() {
        PriceUpon x = new PriceUpon();
        check.due("feed of zeros", x.feed(0, 0, 0, 0, 0), 0);
        check.due("feed with gaps", x.feed(0x6E002000, 0x00310000, 0, 0, 0x0000003B), 4);
        check.due("fault of n 1;", x.fault(), 4);
        check.due("end(3)", x.end(3), true);
        check.due("fault of n 1", x.fault(), -1);
        check.due("end(0)", x.end(0), true);
        for (int k = 1; k <= 14; k++) {
            check.due("feed of twenty", x.feed(-1, -1, -1, -1, -1), 20 * k);
        }
        check.due("feed of one byte", x.feed(0, 0, 0, 0, 65), 281);
        check.due("feed of twenty over 300", x.feed(-1, -1, -1, -1, -1), -1);
        check.due("count(2) after a refusal", x.count(2), 281);
        check.due("feed of nineteen up to 300", x.feed(-1, -1, -1, -1, 0x00FFFFFF), 300);
        check.due("feed of one over 300", x.feed(0, 0x100, 0, 0, 0), -1);
        check.due("feed of none at 300", x.feed(0, 0, 0, 0, 0), 300);
        check.due("fault of a byte of 255", x.fault(), 0);
        // each byte counts for itself, whatever it is and wherever it stands
        for (int k = 0; k < 20; k++) {
            x.end(299);
            int[] two = new int[5];
            two[k / 4] |= 1 << 8 * (k % 4) + k % 8;
            check.due("feed of one of five", x.feed(two[0], two[1], two[2], two[3], two[4]), 300);
            x.end(299);
            two[(k + 7) % 20 / 4] |= 64 << 8 * ((k + 7) % 4);
            check.due("feed of two of five", x.feed(two[0], two[1], two[2], two[3], two[4]), -1);
            check.due("count(2) after it", x.count(2), 299);
        }
    }

    private static void ending() {
        PriceUpon x = new PriceUpon();
        check.due("end(1) of nothing", x.end(1), false);
        check.due("end(-1)", x.end(-1), false);
        check.due("end(0) of nothing", x.end(0), true);
        Check.type(x, "n 1;c 0 3");
        check.due("end(10)", x.end(10), false);
        check.due("count(2)", x.count(2), 9);
        check.due("end(9)", x.end(9), true);
        check.due("end(3)", x.end(3), true);
        check.due("count(2) ended", x.count(2), 3);
        check.due("end(9) after it", x.end(9), false);
        check.due("fault after it", x.fault(), -1);
    }

    private static void fault(String text, int want) {
        check.reads(text, want);
    }

    private static void faults() {
        fault("", 0);
        fault("   ", 3);
        fault("n", 1);
        fault("n ", 2);
        fault("n 1", -1);
        fault("  n   1   ", -1);
        fault("n 1 ;", 5);
        fault("n 1;  ", 6);
        fault(";", 0);
        fault("c 0 1", 0);
        fault("N 1", 0);
        fault("n;", 1);
        fault("n ;", 2);
        fault("n 1x", 3);
        fault("n 1 1", 4);
        fault("n 1 c 0 1", 4);
        fault("n 1;n 1", 4);
        fault("n 1;;", 4);
        fault("n 1;x 0 1", 4);
        fault("n 1;c", 5);
        fault("n 1;c0 1", 5);
        fault("n 1;c 0", 7);
        fault("n 1;c 0;", 7);
        fault("n 1;c 0 ", 8);
        fault("n 1;c 0 ;", 8);
        fault("n 1;c 0 1", -1);
        fault("n 1;c 0 1;", 10);
        fault("n 1\t", 3);
        fault("n\t1", 1);
        fault("n 1 ;  c   0  30  ;e 0 0", -1);
        fault("n 2;w 1 4", 9);
        fault("n 2;w 1 4 ", 10);
        fault("n 2;w 1 4;", 9);
        fault("n 2;w 1 4 1 1", 12);
        fault("n 1" + (char) 160, 3);
        fault("n 1;c 0 1" + (char) 255, 9);
    }

    private static void numbers() {
        fault("n 0", 2);
        fault("n 0;", 2);
        fault("n 00", 3);
        fault("n 01", -1);
        fault("n 8", -1);
        fault("n 08", -1);
        fault("n 9", 2);
        fault("n 9;c 0 1", 2);
        fault("n 09", 3);
        fault("n 10", 3);
        fault("n 95", 3);
        fault("n 012", 4);
        fault("n 123", 3);
        fault("n 2;c 1 30", -1);
        fault("n 2;c 1 31", 9);
        fault("n 2;c 1 031", 10);
        fault("n 2;c 1 300", 10);
        fault("n 2;c 01 0", -1);
        fault("n 2;c 2 0", 6);
        fault("n 2;c 02 0", 7);
        fault("n 2;c 10 0", 7);
        fault("n 2;c 001 0", 8);
        fault("n 2;e 1 99", -1);
        fault("n 2;e 1 990", 10);
        fault("n 2;w 1 0 1", 8);
        fault("n 2;w 1 40 30", -1);
        fault("n 2;w 1 41 30", 9);
        fault("n 2;w 1 40 31", 12);
        fault("n 2;w 1 40 0", 11);
        fault("n 2;w 2 40 1", 6);
        fault("n 2;b 0 1", -1);
        fault("n 2;b 1", 7);
        fault("n 2;b 1 ", 8);
        fault("n 2;b 1 1", 8);
        fault("n 2;b 1 0", 8);
        fault("n 2;b 0 2", 8);
        fault("n 2;b 2 1", 6);
        fault("n 2;b 0 01", -1);
        fault("n 2;b 0 00", 9);
        fault("n 1;b 0 0", 8);
        fault("n 3;b 0 1;b 0 1", 14);
        fault("n 3;b 0 2;b 1 2", 14);
        fault("n 3;b 0 2;b 1 02", 15);
        fault("n 3;b 0 1;b 1 2;b 0", 19);
    }

    private static void lots() {
        StringBuilder text = new StringBuilder("n 2;b 0 1");
        for (int k = 0; k < 20; k++) {
            text.append(";w ").append(k % 2).append(" 4 30");
        }
        fault(text.toString(), -1);
        fault(text + "; c 0 1", -1);
        fault(text + "; w 1 4 1", text.length() + 2);
        PriceUpon x = Check.of(text.toString());
        check.due("want of ten lots", x.want(0, 1, 4), 300);
    }

    private static void trades() {
        PriceUpon x = new PriceUpon();
        for (int k = 0; k < 10; k++) {
            Check.type(x, "n " + (k % 8 + 1));
            check.due("trade()", x.trade(), k);
            check.due("trade() of an empty tape", x.trade(), -1);
        }
        Check.type(x, "n 1");
        check.due("fault() with ten", x.fault(), -1);
        check.due("trade() with ten", x.trade(), -1);
        check.due("count(2) with ten", x.count(2), 3);
        check.due("count(0) with ten", x.count(0), 10);
        for (int k = 0; k < 10; k++) {
            check.due("houses(" + k + ")", x.houses(k), k % 8 + 1);
        }
        check.due("houses(10)", x.houses(10), -1);
        check.due("houses(-1)", x.houses(-1), -1);
        check.due("houses(MIN)", x.houses(Integer.MIN_VALUE), -1);
        check.due("houses(MAX)", x.houses(Integer.MAX_VALUE), -1);
    }

    private static void houses() {
        PriceUpon x = Check.of("n 4;c 1 7;c 1 9;b 0 1;b 0 3;e 3 12;e 3 98;w 3 5 2;w 3 1 3;w 0 5 2;c 2 30");
        int[][] want = {{0, -1, 0, 2, 0}, {9, 0, 0, 0, 0}, {30, -1, 0, 0, 0}, {0, 0, 98, 0, 5}};
        for (int h = 0; h < 4; h++) {
            for (int what = 0; what < 5; what++) {
                check.due("house(0, " + h + ", " + what + ")", x.house(0, h, what), want[h][what]);
            }
        }
        int[][] wrong = {{1, 0, 0}, {-1, 0, 0}, {0, 4, 0}, {0, -1, 0}, {0, 0, 5}, {0, 0, -1}, {Integer.MAX_VALUE, 0, 0},
            {0, Integer.MIN_VALUE, 0}, {0, 8, 0}};
        for (int[] w : wrong) {
            check.refusesHouse(x, w[0], w[1], w[2]);
        }
        // a text that failed must leave nothing behind in the next one
        Check.type(x, "n 3;b 0 1;c 1 9;w 1 4 4;e 1 4;x");
        check.due("trade of a fault", x.trade(), -1);
        Check.type(x, "n 2");
        check.due("trade after a fault", x.trade(), 1);
        int[] plain = {0, -1, 0, 0, 0};
        for (int what = 0; what < 5; what++) {
            check.due("house(1, 1, " + what + ")", x.house(1, 1, what), plain[what]);
        }
        check.due("house(0, 1, 0) after it", x.house(0, 1, 0), 9);
    }

    private static void wants() {
        PriceUpon x = Check.of("n 3;b 0 1;w 1 40 30;w 1 1 2;w 0 9 9;w 2 7 1");
        check.due("want at 0", x.want(0, 1, 0), 32);
        check.due("want at 1", x.want(0, 1, 1), 32);
        check.due("want at 2", x.want(0, 1, 2), 30);
        check.due("want at 40", x.want(0, 1, 40), 30);
        check.due("want at 41", x.want(0, 1, 41), 0);
        check.due("want at 42", x.want(0, 1, 42), -1);
        check.due("want at -1", x.want(0, 1, -1), -1);
        check.due("want of no shop", x.want(0, 0, 3), -1);
        check.due("want of a maker that is a shop", x.want(0, 2, 7), 1);
        check.due("want of no house", x.want(0, 3, 7), -1);
        check.due("want of house -1", x.want(0, -1, 7), -1);
        check.due("want of no trade", x.want(1, 1, 7), -1);
    }

    private static void counts() {
        PriceUpon x = Check.of("n 1");
        x.chance(1, 1);
        x.feed(0x41, 0x42, 0, 0, 0);
        check.due("count(0)", x.count(0), 1);
        check.due("count(1)", x.count(1), 1);
        check.due("count(2)", x.count(2), 2);
        check.due("count(3)", x.count(3), -1);
        check.due("count(-1)", x.count(-1), -1);
        x.feed(0x43, 0, 0, 0, 0);
        check.due("count(2) of three", x.count(2), 3);
    }
}
