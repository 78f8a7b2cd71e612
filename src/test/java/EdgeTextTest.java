/** Section 1 with promises 1 to 8 and 33, each bound from both sides: texts, the tape, trades and what they hold. */
public final class EdgeTextTest {
    private static final Check check = new Check("EdgeTextTest");

    public static void main(String[] args) {
        boundsOfNumbers();
        thirdDigits();
        whoBuys();
        buysAlready();
        twentyLots();
        otherStatementsWithoutEnd();
        latestCounts();
        signsThatMayFollow();
        blanks();
        endsTooEarly();
        fullTape();
        feeding();
        ending();
        tenTrades();
        firstAndLastTrade();
        mendedTape();
        housesOfEachSize();
        shopsAndOthers();
        wantsAtEachPrice();
        counts();
        check.end();
    }

    /** Each number of one digit and of two at one place of a text; what is out of bounds is wrong at its last digit. */
    private static void number(String ahead, String behind, int low, int high) {
        for (int form = 0; form < 110; form++) {
            String digits = form < 10 ? "" + form : "" + (form - 10) / 10 + form % 10;
            int value = Integer.parseInt(digits);
            boolean right = value >= low && value <= high;
            check.reads(ahead + digits + behind, right ? -1 : ahead.length() + digits.length() - 1);
        }
    }

    private static void boundsOfNumbers() {
        number("n ", "", 1, 8);
        number("n ", " ;c 0 0", 1, 8);
        for (int n = 1; n <= 8; n++) {
            number("n " + n + ";c ", " 3", 0, n - 1);
            number("n " + n + ";w ", " 3 3", 0, n - 1);
            number("n " + n + ";e ", " 3", 0, n - 1);
        }
        number("n 2;c 1 ", "", 0, 30);
        number("n 2;c 1 ", ";c 0 1", 0, 30);
        number("n 2;w 1 ", " 30", 1, 40);
        number("n 2;w 1 40 ", "", 1, 30);
        number("n 2;w 1 40 ", ";e 0 1", 1, 30);
        number("n 2;e 1 ", "", 0, 99);
        number("n 2;e 1 ", ";c 0 1", 0, 99);
    }

    /** A third digit is wrong where it stands, unless the first two are wrong already. */
    private static void thirdDigits() {
        String[] ahead = {"n ", "n 8;c ", "n 8;b ", "n 8;b 1 ", "n 8;w ", "n 8;e ", "n 8;c 1 ", "n 8;w 1 ", "n 8;w 1 2 ", "n 8;e 1 "};
        int[][] bounds = {{1, 8}, {0, 7}, {0, 7}, {2, 7}, {0, 7}, {0, 7}, {0, 30}, {1, 40}, {1, 30}, {0, 99}};
        for (int k = 0; k < ahead.length; k++) {
            for (int two = 0; two < 100; two++) {
                boolean right = two >= bounds[k][0] && two <= bounds[k][1];
                String text = ahead[k] + two / 10 + two % 10;
                check.reads(text + two % 10, right ? text.length() : text.length() - 1);
                check.reads(text + "0 0 0", right ? text.length() : text.length() - 1);
            }
        }
    }

    private static void whoBuys() {
        for (int n = 1; n <= 8; n++) {
            for (int a = 0; a < 10; a++) {
                String seller = "n " + n + ";b " + a;
                // an A is right by itself, even the last house's, for which there is no B
                check.reads(seller, a < n ? seller.length() : seller.length() - 1);
                check.reads(seller + " ", a < n ? seller.length() + 1 : seller.length() - 1);
                for (int b = 0; b < 20; b++) {
                    String buyer = seller + " " + (b < 10 ? "" + b : "0" + (b - 10));
                    boolean right = b % 10 > a && b % 10 < n;
                    check.reads(buyer, a >= n ? seller.length() - 1 : right ? -1 : buyer.length() - 1);
                }
            }
        }
    }

    private static void buysAlready() {
        for (int first = 0; first < 3; first++) {
            for (int second = 0; second < 3; second++) {
                String text = "n 5;b " + first + " 3;b " + second + " ";
                check.reads(text + "3", text.length());
                check.reads(text + "03", text.length() + 1);
                check.reads(text + "4", -1);
                check.reads(text + "4;b 3 4", text.length() + 6);
                check.reads(text + "4;b 0 1;b 1 2", -1);
            }
        }
    }

    private static void twentyLots() {
        for (int house = 0; house < 2; house++) {
            StringBuilder text = new StringBuilder("n 2;b 0 1");
            for (int k = 0; k < 19; k++) {
                text.append(";w ").append(house).append(" 4 1");
            }
            check.reads(text + ";w 1 40 30", -1);
            check.reads(text + ";w 1 40 30;", text.length() + 11);
            check.reads(text + ";w 1 40 30;c 1 1;e 1 1", -1);
            check.reads(text + ";w 1 40 30;w", text.length() + 11);
            check.reads(text + ";w 1 40 30;  w 1 1 1", text.length() + 13);
            check.reads(text + ";w 1 40 30;c 1 1;w 1 1 1", text.length() + 17);
            PriceUpon x = Check.of(text + ";w 1 40 30");
            check.due("want with the twentieth", x.want(0, 1, 40), 30);
        }
    }

    private static void otherStatementsWithoutEnd() {
        for (String statement : new String[] {";c 0 3", ";e 0 3"}) {
            check.reads("n 1" + statement.repeat(49), -1);
        }
    }

    private static void latestCounts() {
        PriceUpon x = Check.of("n 3;c 0 30;c 0 0;c 1 1;c 1 30;e 0 99;e 0 0;e 1 1;e 1 99");
        int[][] due = {{0, 0}, {30, 99}, {0, 0}};
        for (int h = 0; h < 3; h++) {
            check.due("the latest cost", x.house(0, h, 0), due[h][0]);
            check.due("the latest ELSE", x.house(0, h, 2), due[h][1]);
        }
    }

    /** Every byte behind a beginning: those of done make it a trade, with those of open it ends too early, others are the fault. */
    private static void follow(String beginning, String done, String open) {
        for (int sign = 1; sign < 256; sign++) {
            String text = beginning + (char) sign;
            boolean isDone = done.indexOf(sign) >= 0;
            boolean isOpen = open.indexOf(sign) >= 0;
            check.reads(text, isDone ? -1 : isOpen ? text.length() : beginning.length());
        }
    }

    private static void signsThatMayFollow() {
        follow("", "", " n");
        follow("  ", "", " n");
        follow("n", "", " ");
        follow("n ", "12345678", " ");
        follow("n  ", "12345678", " ");
        follow("n 8", " ", ";");
        follow("n 08", " ", ";");
        follow("n 8 ", " ", ";");
        follow("n 8;", "", " bcew");
        follow("n 8; ", "", " bcew");
        follow("n 8;b", "", " ");
        follow("n 8;c", "", " ");
        follow("n 8;e", "", " ");
        follow("n 8;w", "", " ");
        follow("n 8;c ", "", " 01234567");
        follow("n 8;c 7", "", " ");
        follow("n 8;c 07", "", " ");
        follow("n 8;c 7 ", "0123456789", " ");
        follow("n 8;c 7 2", " 0123456789", ";");
        follow("n 8;c 7 3", " 0", ";");
        follow("n 8;c 7 30", " ", ";");
        follow("n 8;c 7 30 ", " ", ";");
        follow("n 8;b ", "", " 01234567");
        follow("n 8;b 5", "", " ");
        follow("n 8;b 5 ", "67", " ");
        follow("n 8;b 5 6", " ", ";");
        follow("n 8;b 5 7;b 5 ", "6", " ");
        follow("n 8;w 7", "", " ");
        follow("n 8;w 7 ", "", " 123456789");
        follow("n 8;w 7 3", "", " 0123456789");
        follow("n 8;w 7 4", "", " 0");
        follow("n 8;w 7 40", "", " ");
        follow("n 8;w 7 40 ", "123456789", " ");
        follow("n 8;w 7 40 2", " 0123456789", ";");
        follow("n 8;w 7 40 3", " 0", ";");
        follow("n 8;w 7 40 30", " ", ";");
        follow("n 8;e 7 ", "0123456789", " ");
        follow("n 8;e 7 9", " 0123456789", ";");
        follow("n 8;e 7 99", " ", ";");
        follow("n 8;e 7 99;", "", " bcew");
    }

    private static void blanks() {
        for (int k = 0; k < 4; k++) {
            String some = " ".repeat(k);
            check.reads(some + "n 2" + some + ";" + some + "b 0 1" + some + ";" + some + "w 1 4 4" + some, -1);
            String text = "n " + some + "2;b " + some + "0 " + some + "1;w " + some + "1 " + some + "4 " + some + "4";
            check.reads(text, -1);
        }
        // none ahead of a number
        check.reads("n2", 1);
        check.reads("n 2;c0 1", 5);
        check.reads("n 2;b0 1", 5);
        check.reads("n 2;w0 1 1", 5);
        check.reads("n 2;e0 1", 5);
        // a blank ends a number
        check.reads("n 1 2", 4);
        check.reads("n 2;c 1 3 0", 10);
        check.reads("n 2;w 1 4 3 0", 12);
    }

    private static void endsTooEarly() {
        String text = "  n 4 ; b 0 1;c 1 30 ;w 1 25 13;e 3 99; b 1 2;w 2 4 3 ";
        for (int n = 0; n <= text.length(); n++) {
            String part = text.substring(0, n);
            String last = part.substring(part.lastIndexOf(';') + 1).strip();
            int words = last.startsWith("n") ? 2 : last.startsWith("w") ? 4 : 3;
            check.reads(part, last.split(" +").length == words ? -1 : n);
        }
    }

    private static void fullTape() {
        String right = "n 1" + " ".repeat(297);
        check.reads(right, -1);
        check.reads("n 1;" + " ".repeat(296), 300);
        check.reads(" ".repeat(300), 300);
        check.reads(" ".repeat(299) + "n", 300);
        check.reads(" ".repeat(297) + "n 8", -1);
        check.reads(" ".repeat(297) + "n 9", 299);
        PriceUpon x = new PriceUpon();
        Check.type(x, right);
        check.due("a byte over 300", x.feed(0x3B, 0, 0, 0, 0), -1);
        check.due("300 bytes are still right", x.fault(), -1);
        check.due("300 bytes are a trade", x.trade(), 0);
        check.due("the tape is empty then", x.feed(0x6E, 0, 0, 0, 0), 1);
    }

    private static void feeding() {
        PriceUpon x = new PriceUpon();
        check.due("no bytes of an empty tape", x.feed(0, 0, 0, 0, 0), 0);
        // the highest byte first, in each of the five: n 2;b 0 1;w 1 40 30
        check.due("twenty bytes", x.feed(0x6E20323B, 0x62203020, 0x313B7720, 0x31203430, 0x20333000), 19);
        check.due("one more behind bytes of 0", x.feed(0, 0, 0x00002000, 0, 0), 20);
        check.due("they are right", x.fault(), -1);
        check.due("they are a trade", x.trade(), 0);
        check.due("what it holds", x.want(0, 1, 40), 30);
        for (int over = 1; over <= 20; over++) {
            int[] five = new int[5];
            for (int k = 0; k < over; k++) {
                five[k % 5] |= 0x20 << 8 * (k / 5);
            }
            PriceUpon y = new PriceUpon();
            Check.type(y, "n 1" + " ".repeat(297 - over));
            check.due(over + " up to 300", y.feed(five[0], five[1], five[2], five[3], five[4]), 300);
            check.due("to 301", y.feed(five[0], five[1], five[2], five[3], five[4]), -1);
            check.due("the end by one", y.end(301 - over), true);
            check.due(over + " over 300", y.feed(five[0], five[1], five[2], five[3], five[4]), -1);
            check.due("nothing of it came", y.count(2), 301 - over);
            check.due("the text is as it was", y.fault(), -1);
        }
        // a byte of 128 or more is one byte, the sign of its number notwithstanding
        PriceUpon z = new PriceUpon();
        check.due("high bytes", z.feed(0x80000000, 0xFF, -1, 0x00800080, Integer.MIN_VALUE), 9);
    }

    private static void ending() {
        PriceUpon x = new PriceUpon();
        check.due("end(0) of none", x.end(0), true);
        check.due("end(1) of none", x.end(1), false);
        check.due("end(-1) of none", x.end(-1), false);
        Check.type(x, "n 12");
        check.due("end(5) of four", x.end(5), false);
        check.due("end(-1) of four", x.end(-1), false);
        check.due("end(MIN)", x.end(Integer.MIN_VALUE), false);
        check.due("end(MAX)", x.end(Integer.MAX_VALUE), false);
        check.due("four are left", x.count(2), 4);
        check.due("all of them", x.fault(), 3);
        check.due("end(4) of four", x.end(4), true);
        check.due("four are left still", x.count(2), 4);
        check.due("end(3) of four", x.end(3), true);
        check.due("three are left", x.count(2), 3);
        check.due("end(4) of three", x.end(4), false);
        check.due("three are right", x.fault(), -1);
        check.due("more comes behind them", x.feed(0x3B632030, 0x20330000, 0, 0, 0), 9);
        check.due("that is right", x.trade(), 0);
        check.due("and is what it says", x.house(0, 0, 0), 3);
        Check.type(x, "n 1" + " ".repeat(297));
        check.due("end(301) of 300", x.end(301), false);
        check.due("end(300) of 300", x.end(300), true);
        check.due("end(0) of 300", x.end(0), true);
        check.due("none is left", x.count(2), 0);
        check.due("none is no trade", x.fault(), 0);
    }

    private static void tenTrades() {
        PriceUpon x = new PriceUpon();
        for (int k = 0; k < 10; k++) {
            check.due("houses ahead of it", x.houses(k), -1);
            Check.type(x, "n " + (k % 8 + 1) + ";c 0 " + k);
            check.due("trade()", x.trade(), k);
            check.due("the tape is empty", x.count(2), 0);
            check.due("trades", x.count(0), k + 1);
            check.due("houses of it", x.houses(k), k % 8 + 1);
        }
        Check.type(x, "n 5;c 0 30");
        check.due("an eleventh is right by itself", x.fault(), -1);
        check.due("and is none", x.trade(), -1);
        check.due("the tape stays", x.count(2), 10);
        check.due("its text too", x.fault(), -1);
        check.due("trades stay ten", x.count(0), 10);
        check.due("houses(10)", x.houses(10), -1);
        for (int k = 0; k < 10; k++) {
            check.due("each stays what it was", x.house(k, 0, 0), k);
        }
    }

    /** The first and the last trade are right wherever a trade is named; RefusalTest has those next to them. */
    private static void firstAndLastTrade() {
        PriceUpon x = new PriceUpon();
        for (int k = 0; k < 10; k++) {
            Check.type(x, "n 3;b 0 1;b 0 2;w 1 9 2;w 2 5 1;e 1 " + k);
            x.trade();
        }
        for (int t = 0; t < 10; t += 9) {
            check.due("house", x.house(t, 1, 2), t);
            check.due("houses", x.houses(t), 3);
            check.due("want", x.want(t, 1, 9), 2);
            check.due("join", x.join(t, 2), true);
            check.due("law", x.law(t, 8, true), true);
            check.due("halve", x.halve(t, true), true);
            check.due("tell", x.tell(t, 1, true, 7), true);
            check.due("ask", x.ask(t, 1, 3), 8);
            check.due("take", x.take(t, 1, 3), 2);
            check.due("outcome", x.outcome(t, 1, 3), 16);
            check.due("sum", x.sum(t, 1), 21);
            check.due("passed", x.passed(t, 0, 9, 1), 33);
            check.due("gain", x.gain(t, 1), -2);
            check.due("gain of buyers", x.gain(t, -1), 2);
            check.due("given", x.given(t, 1), 14);
            check.due("doers", x.doers(t), 7);
            check.due("fee", x.fee(t, 1, 0), 18 - t);
            check.due("parts", x.parts(t, 1, 0), 0);
            check.due("takings", x.takings(t, 1, 0), 10000);
            check.due("rivals", x.rivals(t, 1, 2, 0, 0, -1) > 0, true);
            check.due("makers", x.makers(t, 0, 1, 2, -1) > 0, true);
            check.due("rather", x.rather(t, 2), 0);
            check.due("rests", x.rests(t, -1) > 0, true);
        }
    }

    private static void mendedTape() {
        PriceUpon x = new PriceUpon();
        Check.type(x, "n 2;b 0 1;c 1 31");
        check.due("a fault", x.fault(), 15);
        check.due("no trade", x.trade(), -1);
        check.due("the tape stays", x.count(2), 16);
        check.due("the fault too", x.fault(), 15);
        check.due("mended", x.end(15), true);
        check.due("a trade, and the first", x.trade(), 0);
        check.due("its cost", x.house(0, 1, 0), 3);
        Check.type(x, "n 9");
        check.due("another fault", x.trade(), -1);
        Check.type(x, "n 1");
        check.due("the second", x.trade(), 1);
    }

    private static void housesOfEachSize() {
        for (int n = 1; n <= 8; n++) {
            PriceUpon x = Check.of("n " + n + ";c " + (n - 1) + " 7");
            check.due("houses", x.houses(0), n);
            check.due("the last of them", x.house(0, n - 1, 0), 7);
            for (int what = 0; what <= 4; what++) {
                check.refusesHouse(x, 0, n, what);
                check.refusesHouse(x, 0, -1, what);
                check.refusesHouse(x, 1, 0, what);
                check.refusesHouse(x, -1, 0, what);
            }
            check.refusesHouse(x, 0, 0, -1);
            check.refusesHouse(x, 0, 0, 5);
            check.refusesHouse(x, 0, n - 1, Integer.MAX_VALUE);
            check.refusesHouse(x, 0, n - 1, Integer.MIN_VALUE);
            check.due("houses(1)", x.houses(1), -1);
            check.due("houses(-1)", x.houses(-1), -1);
        }
        PriceUpon x = Check.of("n 8;b 0 1;b 0 2;b 0 3;b 0 4;b 0 5;b 0 6;b 0 7");
        check.due("how many buy", x.house(0, 0, 3), 7);
        check.due("that it buys from", x.house(0, 7, 1), 0);
        check.due("a maker buys from none", x.house(0, 0, 1), -1);
    }

    /** Buyers at a house that sells to others count for nothing, whether they came ahead of those or behind. */
    private static void shopsAndOthers() {
        PriceUpon x = Check.of("n 3;w 0 40 30;b 0 1;w 0 40 30;w 1 9 2;w 2 5 1");
        check.due("house 4 of no shop", x.house(0, 0, 4), 0);
        check.due("want of no shop", x.want(0, 0, 0), -1);
        check.due("house 4 of a shop", x.house(0, 1, 4), 2);
        check.due("house 4 of a maker that is a shop", x.house(0, 2, 4), 1);
        check.due("what the first sells", x.outcome(0, 0, 2), 2);
        check.due("what all earn", x.sum(0, 0), 23);
        check.due("what is saved", x.sum(0, 3), 0);
        check.due("what all earn together", x.sum(0, 1), 23);
        check.due("the fee", x.fee(0, 0, 0), 18);
    }

    private static void wantsAtEachPrice() {
        PriceUpon x = Check.of("n 1;w 0 1 1;w 0 20 2;w 0 20 4;w 0 40 8");
        for (int p = 0; p <= 41; p++) {
            check.due("want at " + p, x.want(0, 0, p), p <= 1 ? 15 : p <= 20 ? 14 : p <= 40 ? 8 : 0);
        }
        for (int p : new int[] {-1, 42, Integer.MIN_VALUE, Integer.MAX_VALUE}) {
            check.due("want at " + p, x.want(0, 0, p), -1);
        }
        check.due("want of no house", x.want(0, 1, 1), -1);
        check.due("want of house -1", x.want(0, -1, 1), -1);
        check.due("want of no trade", x.want(1, 0, 1), -1);
        check.due("want of trade -1", x.want(-1, 0, 1), -1);
    }

    private static void counts() {
        PriceUpon x = new PriceUpon();
        for (int what = 0; what < 3; what++) {
            check.due("count(" + what + ") anew", x.count(what), 0);
        }
        for (int what : new int[] {-1, 3, Integer.MIN_VALUE, Integer.MAX_VALUE}) {
            check.due("count(" + what + ")", x.count(what), -1);
        }
    }
}
