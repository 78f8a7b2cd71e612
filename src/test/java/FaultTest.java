import java.util.Random;

/** Promise 4 over many texts, held against a second reader that goes sign by sign. */
public final class FaultTest {
    private static final Check check = new Check("FaultTest");
    private static final Random random = new Random(7);

    public static void main(String[] args) {
        PriceUpon x = null;
        int right = 0;
        for (int k = 0; k < 60000; k++) {
            if (k % 24 == 0) {
                x = new PriceUpon();
            }
            String text = k % 3 == 0 ? someText() : spoil(someText());
            if (text.length() > 300) {
                text = text.substring(0, 300);
            }
            Check.type(x, text);
            int want = new Signs(text).fault();
            right += want == -1 ? 1 : 0;
            check.due("fault of '" + text + "'", x.fault(), want);
        }
        check.due("many texts are right", right > 5000 && right < 55000, true);
        check.end();
    }

    private static String someText() {
        int n = random.nextInt(9);
        StringBuilder text = new StringBuilder(blanks(0) + "n" + blanks(1) + number(n));
        int statements = random.nextInt(6) == 0 ? 26 : random.nextInt(7);
        for (int k = 0; k < statements; k++) {
            boolean tight = statements == 26;
            String letter = tight && random.nextInt(8) != 0 ? "w" : String.valueOf("cbwe".charAt(random.nextInt(4)));
            int house = random.nextInt(n + (random.nextInt(9) == 0 ? 2 : 1)) - (random.nextInt(5) == 0 ? 0 : 1);
            text.append(blanks(0)).append(';').append(blanks(0)).append(letter);
            text.append(blanks(1)).append(number(Math.max(0, house)));
            text.append(blanks(1)).append(number(letter.equals("b") ? random.nextInt(n + 1) : random.nextInt(random.nextBoolean() ? 31 : 43)));
            if (letter.equals("w")) {
                text.append(blanks(1)).append(number(random.nextInt(random.nextBoolean() ? 20 : 33)));
            }
        }
        return text + blanks(0);
    }

    private static String blanks(int least) {
        return " ".repeat(least + (random.nextInt(12) == 0 ? random.nextInt(3) : 0));
    }

    private static String number(int value) {
        return (value < 10 && random.nextInt(10) == 0 ? "0" : "") + value;
    }

    private static String spoil(String text) {
        StringBuilder other = new StringBuilder(text);
        int at = random.nextInt(other.length());
        String signs = " ;;nbcwe0123456789x\u00FF\u0001";
        switch (random.nextInt(3)) {
            case 0:
                other.setCharAt(at, signs.charAt(random.nextInt(signs.length())));
                break;
            case 1:
                other.setLength(at);
                break;
            default:
                other.insert(at, signs.charAt(random.nextInt(signs.length())));
        }
        return other.toString();
    }

    /** One step a sign; the end of the text counts as a sign too. */
    private static final class Signs {
        private final String text;
        private int n = 0;
        private int lots = 0;
        private int statements = 0;
        private char letter = 0;
        private int numbers = 0;
        private int value = 0;
        private int lower = 0;
        private final boolean[] buys = new boolean[8];
        // 0 ahead of a letter, 1 a blank must come, 2 ahead of a number, 3 behind one digit, 4 behind two, 5 behind all
        private int state = 0;

        Signs(String text) {
            this.text = text;
        }

        int fault() {
            for (int at = 0; at <= text.length(); at++) {
                int sign = at < text.length() ? text.charAt(at) : -1;
                boolean digit = sign >= '0' && sign <= '9';
                if (state == 3 && digit) {
                    value = value * 10 + sign - '0';
                    state = 4;
                    continue;
                }
                if (state == 3 || state == 4) {
                    if (!fits()) {
                        return at - 1;
                    }
                    numbers++;
                    state = numbers == due() ? 5 : 1;
                }
                if (!step(sign, digit)) {
                    return at;
                }
            }
            return -1;
        }

        private int due() {
            return letter == 'n' ? 1 : letter == 'w' ? 3 : 2;
        }

        private boolean step(int sign, boolean digit) {
            switch (state) {
                case 0:
                    return sign == ' ' || letter(sign);
                case 1:
                    state = 2;
                    return sign == ' ';
                case 2:
                    value = sign - '0';
                    state = digit ? 3 : 2;
                    return digit || sign == ' ';
                default:
                    state = sign == ';' ? 0 : 5;
                    return sign == ';' || sign == ' ' || sign == -1;
            }
        }

        private boolean letter(int sign) {
            if (sign < 0 || (statements == 0 ? "n" : "cbwe").indexOf(sign) < 0 || sign == 'w' && lots == 20) {
                return false;
            }
            statements++;
            lots += sign == 'w' ? 1 : 0;
            letter = (char) sign;
            numbers = 0;
            state = 1;
            return true;
        }

        private boolean fits() {
            if (letter == 'n') {
                n = value;
                return value >= 1 && value <= 8;
            }
            if (numbers == 0) {
                lower = value;
                return value < n;
            }
            if (letter == 'b') {
                boolean right = value > lower && value < n && !buys[value];
                if (right) {
                    buys[value] = true;
                }
                return right;
            }
            if (letter == 'w') {
                return value >= 1 && value <= (numbers == 1 ? 40 : 30);
            }
            return letter == 'e' || value <= 30;
        }
    }
}
