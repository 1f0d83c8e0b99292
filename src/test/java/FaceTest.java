import java.io.IOException;
import java.lang.reflect.Constructor;
import java.lang.reflect.Field;
import java.lang.reflect.Method;
import java.lang.reflect.Modifier;
import java.nio.file.Files;
import java.nio.file.Path;
import java.util.ArrayList;
import java.util.List;
import java.util.Set;
import java.util.TreeSet;
import java.util.regex.Matcher;
import java.util.regex.Pattern;

/** The public face is that of the document, and the file keeps to what LANGUAGE.md lets be seen from outside. */
public final class FaceTest {
    private static final String DOCUMENT = "../shared/DOC.md";
    private static final String SOURCE = "src/main/java/YearWord.java";
    private static final String FORBIDDEN =
        "\\b(throw|throws|try|catch|synchronized|assert|volatile|native|transient|protected|var|yield)\\b|->|::|\\bequals\\b|\\bhashCode\\b"
        + "|\\bThread\\b|\\bRandom\\b|Exact\\b|@\\w+";
    /** What of the library LANGUAGE.md lists and the class needs. */
    private static final Set<String> LIBRARY =
        Set.of("Arrays.fill", "System.arraycopy", "Math.abs", "Math.max", "Math.min", "Integer.bitCount");

    private static int wrong = 0;

    private static void due(String what, Object got, Object want) {
        if (!got.equals(want)) {
            wrong++;
            System.out.println(what + " is " + got + ", due is " + want);
        }
    }

    public static void main(String[] args) throws IOException, IllegalAccessException {
        String face = face(Files.readString(Path.of(DOCUMENT)));
        methods(face);
        constants(face);
        nested();
        source(Files.readString(Path.of(SOURCE)));
        System.out.println(wrong == 0 ? "the face is as due" : wrong + " things are not as due");
        if (wrong != 0) System.exit(1);
    }

    /** The document's own words for it: what stands between the first line of code and the last. */
    private static String face(String document) {
        int start = document.indexOf("```java");
        int end = document.indexOf("```", start + 1);
        due("the document has a face", start >= 0 && end > start, true);
        return document.substring(Math.max(start, 0), Math.max(end, 0));
    }

    private static Set<String> promised(String face) {
        Set<String> all = new TreeSet<>();
        Matcher m = Pattern.compile("public (int|long) (\\w+)\\(([^)]*)\\);").matcher(face);
        while (m.find()) all.add(m.group(1) + " " + m.group(2) + "(" + m.group(3).replaceAll("(\\w+) \\w+", "$1").replace(" ", "") + ")");
        return all;
    }

    private static String told(Method m) {
        StringBuilder types = new StringBuilder();
        for (Class<?> type : m.getParameterTypes()) types.append(types.length() == 0 ? "" : ",").append(type.getName());
        return m.getReturnType().getName() + " " + m.getName() + "(" + types + ")";
    }

    private static void methods(String face) {
        Set<String> open = new TreeSet<>();
        Set<String> openNames = new TreeSet<>();
        List<Method> hidden = new ArrayList<>();
        for (Method m : YearWord.class.getDeclaredMethods()) {
            if (m.isSynthetic()) continue;
            if (Modifier.isPrivate(m.getModifiers())) {
                hidden.add(m);
                continue;
            }
            due(m.getName() + " is public and of the object", m.getModifiers(), Modifier.PUBLIC);
            open.add(told(m));
            openNames.add(m.getName());
        }
        due("the public methods", open, promised(face));
        due("so many of them", open.size(), 44);
        for (Method m : hidden) due("a private method with a public one's name: " + m.getName(), openNames.contains(m.getName()), false);
        Constructor<?>[] made = YearWord.class.getDeclaredConstructors();
        due("constructors", made.length, 1);
        due("the constructor's parameters", made[0].getParameterCount(), 0);
        due("the constructor is public", made[0].getModifiers(), Modifier.PUBLIC);
        due("the class is public and final", YearWord.class.getModifiers(), Modifier.PUBLIC | Modifier.FINAL);
    }

    private static void constants(String face) throws IllegalAccessException {
        Set<String> open = new TreeSet<>();
        for (Field f : YearWord.class.getDeclaredFields()) {
            if (!Modifier.isPrivate(f.getModifiers())) {
                due(f.getName() + " is a constant", f.getModifiers(), Modifier.PUBLIC | Modifier.STATIC | Modifier.FINAL);
                open.add(f.getName() + " " + f.get(null));
            }
        }
        Set<String> promised = new TreeSet<>();
        Matcher m = Pattern.compile("([A-Z]+) = (-?\\d+)").matcher(face);
        while (m.find()) promised.add(m.group(1) + " " + m.group(2));
        due("the constants", open, promised);
        due("so many of them", open.size(), 6);
    }

    private static void nested() {
        Class<?>[] inside = YearWord.class.getDeclaredClasses();
        due("few classes", inside.length < 12, true);
        fewFields(YearWord.class);
        for (Class<?> c : inside) {
            due(c.getName() + " is static", Modifier.isStatic(c.getModifiers()), true);
            due(c.getName() + " is not public", Modifier.isPublic(c.getModifiers()), false);
            fewFields(c);
            for (Method m : c.getDeclaredMethods()) due(m.getName() + " has seven parameters at most", m.getParameterCount() <= 7, true);
        }
    }

    private static boolean isKnown(String type, String use) {
        for (Class<?> c : YearWord.class.getDeclaredClasses()) {
            if (c.getSimpleName().equals(type)) return true;
        }
        return LIBRARY.contains(use);
    }

    private static void fewFields(Class<?> c) {
        int fields = 0;
        for (Field f : c.getDeclaredFields()) {
            if (!Modifier.isStatic(f.getModifiers())) fields++;
            else due(f.getName() + " is a constant number", Modifier.isFinal(f.getModifiers()) && f.getType().isPrimitive(), true);
        }
        due(c.getName() + " has some twenty fields at most", fields <= 20, true);
    }

    private static void source(String text) {
        String code = text.replaceAll("(?s)/\\*.*?\\*/", "").replaceAll("//[^\n]*", "");
        Matcher bad = Pattern.compile(FORBIDDEN).matcher(code);
        while (bad.find()) due("a word that the language leaves out", bad.group(), "");
        Matcher imports = Pattern.compile("import ([^;]+);").matcher(code);
        while (imports.find()) due("an import", imports.group(1), "java.util.Arrays");
        Matcher used = Pattern.compile("\\b([A-Z][a-z]\\w*)\\.(\\w+)").matcher(code.replaceAll("import [^;]+;", ""));
        while (used.find()) due(used.group() + " is of the library's part or of a class inside", isKnown(used.group(1), used.group()), true);
        int start = 0;
        String[] lines = text.split("\n");
        for (int i = 0; i < lines.length; i++) {
            if (lines[i].matches("( {4}| {8})\\S.*\\) \\{")) start = i;
            if (lines[i].matches("( {4}| {8})\\}")) due("a long method ahead of line " + (i + 1), i - start < 60 || lines[i].length() == 5, true);
        }
        for (char c : text.toCharArray()) due("a sign beyond 127", c > 127, false);
    }
}
