import java.io.File;
import java.io.IOException;
import java.lang.reflect.Method;
import java.lang.reflect.Modifier;
import java.nio.file.Files;
import java.nio.file.Path;

/** README.md shows answers that are true, and names every call of the face and every test. */
public final class ReadmeTest {
    private static final Check check = new Check("ReadmeTest");
    private static String[] lines;
    // the example's lines are looked for from here on, as a call may stand there twice
    private static int next = 0;

    public static void main(String[] args) throws IOException {
        String page = Files.readString(Path.of("README.md"));
        lines = page.split("\n");
        example();
        names(page);
        check.end();
    }

    private static void example() {
        PriceUpon x = new PriceUpon();
        Check.type(x, lineWith("type(x, \"").split("\"")[1]);
        int trade = x.trade();
        shown("x.trade()", trade);
        shown("x.outcome(trade, 1, 0)", x.outcome(trade, 1, 0));
        shown("x.outcome(trade, 1, 1)", x.outcome(trade, 1, 1));
        shown("x.outcome(trade, 0, 3)", x.outcome(trade, 0, 3));
        shown("x.sum(trade, 2)", x.sum(trade, 2));
        shown("x.rather(trade, 1)", x.rather(trade, 1));
        shown("x.law(trade, 6, false)", x.law(trade, 6, false));
        shown("x.outcome(trade, 1, 1)", x.outcome(trade, 1, 1));
        shown("x.gain(trade, PriceUpon.NONE)", x.gain(trade, PriceUpon.NONE));
        for (int k = next; k < lines.length; k++) {
            check.due("a call that is shown and not tried: " + lines[k], lines[k].startsWith("x."), false);
        }
    }

    private static String lineWith(String part) {
        for (; next < lines.length; next++) {
            if (lines[next].contains(part)) {
                next++;
                return lines[next - 1];
            }
        }
        throw new IllegalStateException("README.md does not show " + part);
    }

    private static void shown(String call, Object got) {
        String line = lineWith(call);
        String[] told = line.split("// ", 2);
        check.due("'" + line + "' with " + got, told.length == 2 && told[1].startsWith(got + ":"), true);
    }

    private static void names(String page) {
        for (Method m : PriceUpon.class.getDeclaredMethods()) {
            if (Modifier.isPublic(m.getModifiers())) {
                check.due("README.md names " + m.getName(), page.contains("`" + m.getName() + "`"), true);
            }
        }
        String[] files = new File("src/test/java").list();
        for (String file : files) {
            if (file.endsWith("Test.java")) {
                String name = file.substring(0, file.length() - 5);
                check.due("README.md names " + name, page.contains("`" + name + "`"), true);
            }
        }
    }
}
