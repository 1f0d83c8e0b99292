import java.io.IOException;
import java.lang.reflect.Constructor;
import java.lang.reflect.Field;
import java.lang.reflect.Method;
import java.lang.reflect.Modifier;
import java.nio.file.Files;
import java.nio.file.Path;
import java.util.ArrayList;
import java.util.Arrays;
import java.util.List;
import java.util.Set;
import java.util.TreeSet;
import java.util.regex.Matcher;
import java.util.regex.Pattern;

/** The public face is that of the document, and the file keeps to what LANGUAGE.md lets be seen from outside. */
public final class FaceTest {
    private static final String FACE = """
        int row(int,int)
        int lay(int,int,int)
        int at(int,int)
        int tear(int)
        int copy(int,int,int,int,int)
        int mean(int)
        int text(int,int)
        int put(int,int,int)
        int fault(int)
        int speech(int)
        int node(int,int)
        int word(int,int)
        int deed(int,int)
        int mark(int,int)
        int prize(int,int)
        int say(int)
        int begin(int)
        int undo(int)
        int here()
        int over()
        int told(int)
        int keep(int)
        int on(int)
        int odds(int)
        int years()
        int just(int)
        int known()
        int tell()
        int worst()
        int hopes()
        int brings(int)
        int knows(int)
        int heard(int)
        int slips(int)
        int first(int,int)
        int least(int)
        int lots(int,int)
        int asked()
        long upper()
        long lower()
        int count(int)
        int finding()
        int findings(int)
        long digest()
        """;
    private static final String SOURCE = "src/main/java/YearWord.java";
    private static final String FORBIDDEN =
        "\\b(throw|throws|try|catch|synchronized|assert|volatile|native|transient|protected|var|yield)\\b|->|::|\\bequals\\b|\\bhashCode\\b"
        + "|\\bSystem\\.(?!arraycopy)|\\bThread\\b|\\bRandom\\b|Exact\\b|@\\w+";

    private static int wrong = 0;

    private static void due(String what, Object got, Object want) {
        if (!got.equals(want)) {
            wrong++;
            System.out.println(what + " is " + got + ", due is " + want);
        }
    }

    public static void main(String[] args) throws IOException, IllegalAccessException {
        methods();
        constants();
        nested();
        source(Files.readString(Path.of(SOURCE)));
        System.out.println(wrong == 0 ? "the face is as due" : wrong + " things are not as due");
        if (wrong != 0) System.exit(1);
    }

    private static String told(Method m) {
        StringBuilder types = new StringBuilder();
        for (Class<?> type : m.getParameterTypes()) types.append(types.length() == 0 ? "" : ",").append(type.getName());
        return m.getReturnType().getName() + " " + m.getName() + "(" + types + ")";
    }

    private static void methods() {
        Set<String> open = new TreeSet<>();
        Set<String> openNames = new TreeSet<>();
        List<Method> hidden = new ArrayList<>();
        for (Method m : YearWord.class.getDeclaredMethods()) {
            if (m.isSynthetic()) continue;
            if (Modifier.isPrivate(m.getModifiers())) {
                hidden.add(m);
                continue;
            }
            due(m.getName() + " is public and of the object", m.getModifiers(), Modifier.PUBLIC);
            open.add(told(m));
            openNames.add(m.getName());
        }
        due("the public methods", open, new TreeSet<>(Arrays.asList(FACE.strip().split("\n"))));
        for (Method m : hidden) due("a private method with a public one's name: " + m.getName(), openNames.contains(m.getName()), false);
        Constructor<?>[] made = YearWord.class.getDeclaredConstructors();
        due("constructors", made.length, 1);
        due("the constructor's parameters", made[0].getParameterCount(), 0);
        due("the constructor is public", made[0].getModifiers(), Modifier.PUBLIC);
        due("the class is public and final", YearWord.class.getModifiers(), Modifier.PUBLIC | Modifier.FINAL);
    }

    private static void constants() throws IllegalAccessException {
        Set<String> open = new TreeSet<>();
        for (Field f : YearWord.class.getDeclaredFields()) {
            if (!Modifier.isPrivate(f.getModifiers())) {
                due(f.getName() + " is a constant", f.getModifiers(), Modifier.PUBLIC | Modifier.STATIC | Modifier.FINAL);
                open.add(f.getName() + " " + f.get(null));
            }
            if (Modifier.isStatic(f.getModifiers())) due(f.getName() + " is final", Modifier.isFinal(f.getModifiers()), true);
        }
        due("the constants", open, new TreeSet<>(List.of("BAD -1", "FULL -2", "FINDING -3", "STATE -4", "SPENT -6", "NONE -9")));
    }

    private static void nested() {
        Class<?>[] inside = YearWord.class.getDeclaredClasses();
        due("few classes", inside.length < 12, true);
        for (Class<?> c : inside) {
            due(c.getName() + " is static", Modifier.isStatic(c.getModifiers()), true);
            due(c.getName() + " is not public", Modifier.isPublic(c.getModifiers()), false);
            int fields = 0;
            for (Field f : c.getDeclaredFields()) {
                if (!Modifier.isStatic(f.getModifiers())) fields++;
                else due(f.getName() + " is final", Modifier.isFinal(f.getModifiers()), true);
            }
            due(c.getName() + " has some twenty fields at most", fields <= 20, true);
            for (Method m : c.getDeclaredMethods()) due(m.getName() + " has seven parameters at most", m.getParameterCount() <= 7, true);
        }
    }

    private static void source(String text) {
        String code = text.replaceAll("(?s)/\\*.*?\\*/", "").replaceAll("//[^\n]*", "");
        Matcher bad = Pattern.compile(FORBIDDEN).matcher(code);
        while (bad.find()) due("a word that the language leaves out", bad.group(), "");
        Matcher imports = Pattern.compile("import ([^;]+);").matcher(code);
        while (imports.find()) due("an import", imports.group(1), "java.util.Arrays");
        int start = 0;
        String[] lines = text.split("\n");
        for (int i = 0; i < lines.length; i++) {
            if (lines[i].matches("( {4}| {8})\\S.*\\) \\{")) start = i;
            if (lines[i].matches("( {4}| {8})\\}")) due("a long method ahead of line " + (i + 1), i - start < 60 || lines[i].length() == 5, true);
        }
        for (char c : text.toCharArray()) due("a sign beyond 127", c > 127, false);
    }
}
