import java.io.IOException;
import java.lang.reflect.Field;
import java.lang.reflect.Method;
import java.lang.reflect.Modifier;
import java.nio.file.Files;
import java.nio.file.Path;
import java.util.ArrayList;
import java.util.List;
import java.util.Set;
import java.util.TreeSet;
import java.util.regex.Matcher;
import java.util.regex.Pattern;

/** What can be told of LANGUAGE.md's rules from the compiled class and from its text. */
public final class LanguageTest {
    private static final Path FILE = Path.of("src/main/java/TernaryNet.java");

    private static final Set<String> STATIC_TYPES =
        Set.of("int", "long", "boolean", "char", "java.lang.String", "[I", "[J", "[C", "[B");
    private static final Set<String> IMPORTS = Set.of("java.util.ArrayList", "java.util.List",
        "java.util.Arrays", "java.util.Iterator", "java.util.NoSuchElementException");
    private static final Set<String> THROWN = Set.of("IllegalStateException", "IllegalArgumentException",
        "IndexOutOfBoundsException", "ArithmeticException", "UnsupportedOperationException",
        "NoSuchElementException", "RuntimeException");

    private static final int MOST_CLASSES = 12;
    private static final int MOST_FIELDS = 20;
    private static final int MOST_PARAMETERS = 7;

    private static String code;

    public static void main(String[] args) throws IOException {
        code = withoutComments(Files.readString(FILE));
        Check.test("rule 1: no private method bears the name of a public one", LanguageTest::names);
        Check.test("rules 2, 6 and 13: none of the words that are ruled out", LanguageTest::words);
        Check.test("rule 4: only what the library's list has is imported", LanguageTest::imports);
        Check.test("rule 5: static fields are final constants", LanguageTest::statics);
        Check.test("rule 6: only listed exceptions are thrown, with a written text", LanguageTest::thrown);
        Check.test("rule 6: nothing is caught", LanguageTest::caught);
        Check.test("rule 9: no loop without a condition", LanguageTest::loops);
        Check.test("rule 11: few classes, fields and parameters", LanguageTest::sizes);
        Check.end();
    }

    // Words in comments and texts are free; a text is left as "text".
    private static String withoutComments(String text) {
        return text.replaceAll("(?s)/\\*.*?\\*/", " ").replaceAll("//[^\n]*", " ").replaceAll("\"[^\"\n]*\"", "\"text\"");
    }

    private static List<Class<?>> classes() {
        List<Class<?>> all = new ArrayList<>();
        all.add(TernaryNet.class);
        for (int i = 0; i < all.size(); i++) {
            all.addAll(List.of(all.get(i).getDeclaredClasses()));
        }
        return all;
    }

    private static List<String> found(String pattern) {
        List<String> all = new ArrayList<>();
        Matcher m = Pattern.compile(pattern).matcher(code);
        while (m.find()) {
            all.add(m.groupCount() == 0 ? m.group() : m.group(1));
        }
        return all;
    }

    private static void names() {
        Set<String> open = new TreeSet<>();
        for (Method m : TernaryNet.class.getDeclaredMethods()) {
            if (Modifier.isPublic(m.getModifiers())) {
                open.add(m.getName());
            }
        }
        for (Class<?> c : classes()) {
            for (Method m : c.getDeclaredMethods()) {
                boolean own = c != TernaryNet.class || Modifier.isPrivate(m.getModifiers());
                Check.due(c.getName() + "." + m.getName() + " bears a public name", own && open.contains(m.getName()) ? 1 : 0, 0);
            }
        }
    }

    private static void words() {
        Check.same("words", found("->|::|\\b(?:package|finally|synchronized|assert|native|volatile|transient"
            + "|Thread|Random|System\\s*\\.\\s*(?!arraycopy)\\w+|Math\\s*\\.\\s*\\w+Exact|Object|var)\\b").toString(), "[]");
    }

    private static void imports() {
        for (String name : found("import\\s+([^;]+);")) {
            Check.due("import of " + name, IMPORTS.contains(name) ? 0 : 1, 0);
        }
    }

    private static void statics() {
        Check.same("static blocks", found("static\\s*\\{").toString(), "[]");
        for (Class<?> c : classes()) {
            for (Field f : c.getDeclaredFields()) {
                if (Modifier.isStatic(f.getModifiers())) {
                    Check.due(f + " is final", Modifier.isFinal(f.getModifiers()) ? 1 : 0, 1);
                    Check.due(f + " is a constant", STATIC_TYPES.contains(f.getType().getName()) ? 1 : 0, 1);
                }
            }
        }
    }

    private static void thrown() {
        int throwing = found("\\bthrow\\b").size();
        List<String> written = found("\\bthrow\\s+new\\s+(\\w+)\\((?:\"text\")?\\)\\s*;");
        Check.due("throws with a written text", written.size(), throwing);
        for (String name : written) {
            Check.due("throw of " + name, THROWN.contains(name) ? 0 : 1, 0);
        }
    }

    // Rule 6 lets a try stand round the class's own throws; this class needs none.
    private static void caught() {
        Check.same("catches", found("\\b(?:try|catch)\\b").toString(), "[]");
    }

    private static void loops() {
        Check.same("for", found("for\\s*\\([^;:]*;\\s*;[^)]*\\)").toString(), "[]");
        Check.same("while", found("while\\s*\\(\\s*true\\s*\\)").toString(), "[]");
    }

    private static void sizes() {
        Check.due("too many classes", Math.max(0, classes().size() - MOST_CLASSES), 0);
        for (Class<?> c : classes()) {
            int fields = 0;
            for (Field f : c.getDeclaredFields()) {
                fields += Modifier.isStatic(f.getModifiers()) ? 0 : 1;
            }
            Check.due("too many fields in " + c.getName(), Math.max(0, fields - MOST_FIELDS), 0);
            for (Method m : c.getDeclaredMethods()) {
                Check.due("too many parameters of " + m, Math.max(0, m.getParameterCount() - MOST_PARAMETERS), 0);
            }
        }
    }
}
