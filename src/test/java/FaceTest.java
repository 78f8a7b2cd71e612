import java.io.IOException;
import java.lang.reflect.Constructor;
import java.lang.reflect.Field;
import java.lang.reflect.Method;
import java.lang.reflect.Modifier;
import java.nio.file.Files;
import java.nio.file.Path;
import java.util.Arrays;
import java.util.NoSuchElementException;
import java.util.TreeSet;

/** The face is the document's and no more, and the source keeps to what LANGUAGE.md lets be seen in its text. */
public final class FaceTest {
    private static final Check check = new Check("FaceTest");
    private static final String[] METHODS = {
        "int feed(int,int,int,int,int)", "boolean end(int)", "int fault()", "int trade()", "int house(int,int,int)",
        "int houses(int)", "int want(int,int,int)", "boolean join(int,int)", "boolean law(int,int,boolean)",
        "boolean halve(int,boolean)", "int ask(int,int,int)", "int take(int,int,int)", "int outcome(int,int,int)",
        "int sum(int,int)", "int passed(int,int,int,int)", "int gain(int,int)", "boolean tell(int,int,boolean,int)",
        "int given(int,int)", "int doers(int)", "int fee(int,int,int)", "int parts(int,int,int)",
        "int takings(int,int,int)", "int rivals(int,int,int,int,int,int)", "int makers(int,int,int,int,int)",
        "int chance(int,int)", "int clear()", "int expects(int,int,int,int)", "int stock(int,int,int)",
        "int seller(int,int,int,int)", "int rather(int,int)", "int rests(int,int)", "int count(int)"};

    public static void main(String[] args) throws IOException {
        members();
        source(Files.readString(Path.of("src/main/java/PriceUpon.java")));
        check.end();
    }

    private static void members() {
        TreeSet<String> due = new TreeSet<>(Arrays.asList(METHODS));
        TreeSet<String> names = new TreeSet<>();
        for (String m : METHODS) {
            names.add(m.substring(m.indexOf(' ') + 1, m.indexOf('(')));
        }
        for (Method m : PriceUpon.class.getDeclaredMethods()) {
            String sign = m.getReturnType() + " " + m.getName() + Arrays.toString(m.getParameterTypes()).replace(", ", ",").replace('[', '(').replace(']', ')');
            if (Modifier.isPrivate(m.getModifiers())) {
                check.due("a private name of its own: " + sign, names.contains(m.getName()), false);
            } else {
                check.due("public: " + sign, Modifier.isPublic(m.getModifiers()) && due.remove(sign), true);
                boolean throwing = Arrays.equals(m.getExceptionTypes(), new Class<?>[] {NoSuchElementException.class});
                check.due("throws: " + sign, m.getName().equals("house") ? throwing : m.getExceptionTypes().length == 0, true);
            }
        }
        check.due("missing: " + due, due.size(), 0);
        for (Field f : PriceUpon.class.getDeclaredFields()) {
            boolean constant = f.getName().equals("NONE") || f.getName().equals("HIDDEN");
            check.due("field " + f.getName(), Modifier.isPublic(f.getModifiers()), constant);
            check.due("field " + f.getName() + " is private or of the face", Modifier.isPrivate(f.getModifiers()), !constant);
            check.due("static and final go together: " + f.getName(), !Modifier.isStatic(f.getModifiers()) || Modifier.isFinal(f.getModifiers()), true);
        }
        check.due("NONE", PriceUpon.NONE, -1);
        check.due("HIDDEN", PriceUpon.HIDDEN, -100000000);
        Constructor<?>[] made = PriceUpon.class.getDeclaredConstructors();
        check.due("constructors", made.length, 1);
        check.due("its parameters", made[0].getParameterCount(), 0);
        check.due("it is public", Modifier.isPublic(made[0].getModifiers()), true);
        check.due("the class is final", Modifier.isFinal(PriceUpon.class.getModifiers()), true);
        check.due("classes inside", PriceUpon.class.getDeclaredClasses().length <= 12, true);
        for (Class<?> c : PriceUpon.class.getDeclaredClasses()) {
            check.due("static and private: " + c, Modifier.isStatic(c.getModifiers()) && Modifier.isPrivate(c.getModifiers()), true);
            check.due("fields of " + c, c.getDeclaredFields().length <= 20, true);
            for (Method m : c.getDeclaredMethods()) {
                check.due("parameters of " + m, m.getParameterCount() <= 7, true);
                check.due("a name of its own: " + m, names.contains(m.getName()), false);
            }
        }
    }

    private static void source(String text) {
        String[] never = {"->", "::", "finally", "synchronized", "assert ", "try ", "catch", "instanceof", "System.", "protected",
            "double", "float", "Exact", "package ", "static {"};
        for (String n : never) {
            check.due("no '" + n + "' in the source", text.contains(n), false);
        }
        check.due("one import", text.split("import ", -1).length, 2);
        check.due("one throw", text.split("throw new ", -1).length, 2);
        for (int k = 0; k < text.length(); k++) {
            if (text.charAt(k) > 126 || text.charAt(k) < 10) {
                check.due("signs of the source", text.charAt(k), ' ');
            }
        }
        int length = 0;
        for (String line : text.split("\n")) {
            boolean starts = line.matches("( {4}| {8})(public|private|static|int|void|boolean|Trade)\\b.*\\{");
            boolean ends = line.matches("( {4}| {8})\\}");
            length = starts ? 1 : length + 1;
            if (ends) {
                check.due("lines up to " + line, length <= 60 || line.startsWith("    }"), true);
            }
        }
    }
}
