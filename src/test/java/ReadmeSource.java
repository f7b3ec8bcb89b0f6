import java.io.IOException;
import java.lang.reflect.Method;
import java.lang.reflect.Modifier;
import java.nio.file.Files;
import java.nio.file.Path;
import java.util.ArrayList;
import java.util.List;
import java.util.TreeSet;
import java.util.regex.Matcher;
import java.util.regex.Pattern;

/**
 * Writes ReadmeTest.java from the Java examples of README.md, each call with the answer that its
 * comment tells. Arguments: README.md and the directory for the test. What can't be made a test ends
 * it with code 1: an example that no test runs would tell what nobody knows.
 */
public final class ReadmeSource {
    private static final Pattern NEW_NET = Pattern.compile("TernaryNet net = new TernaryNet\\(\\);");
    private static final Pattern CALL = Pattern.compile(
        "(?:int (?<name>\\w+) = )?(?<call>net\\.(?<method>\\w+)\\([^()]*\\));\\s+// (?<answer>[^:]+)(?:: .+)?");
    private static final Pattern ANSWER = Pattern.compile("\\d+|NONE|throws \\w+");

    private final StringBuilder mains = new StringBuilder();
    private final StringBuilder bodies = new StringBuilder();
    private final TreeSet<String> shown = new TreeSet<>();
    private final List<String> faults = new ArrayList<>();
    private int examples = 0;

    public static void main(String[] args) throws IOException {
        ReadmeSource source = new ReadmeSource();
        source.readAll(Files.readAllLines(Path.of(args[0])));
        source.holdToTheFace();
        for (String fault : source.faults) {
            System.out.println(fault);
        }
        if (!source.faults.isEmpty()) {
            System.exit(1);
        }
        Files.writeString(Path.of(args[1], "ReadmeTest.java"), source.text());
    }

    private void readAll(List<String> lines) {
        boolean inside = false;
        for (int i = 0; i < lines.size(); i++) {
            String line = lines.get(i).strip();
            if (line.startsWith("```")) {
                if (inside) {
                    bodies.append("    }\n");
                }
                inside = !inside && line.equals("```java");
                if (inside) {
                    begin(i + 1);
                }
            } else if (inside && !line.isEmpty()) {
                add(line, i + 1);
            }
        }
        if (inside) {
            faults.add("README.md: the last example has no end");
        }
    }

    private void begin(int number) {
        examples++;
        mains.append("        Check.test(\"README.md: the example at line ").append(number);
        mains.append("\", ReadmeTest::example").append(examples).append(");\n");
        bodies.append("\n    private static void example").append(examples).append("() {\n");
    }

    private void add(String line, int number) {
        if (NEW_NET.matcher(line).matches()) {
            bodies.append("        ").append(line).append('\n');
            return;
        }
        Matcher m = CALL.matcher(line);
        if (!m.matches() || !ANSWER.matcher(m.group("answer")).matches()) {
            faults.add("README.md line " + number + " is no call with its answer: " + line);
            return;
        }
        shown.add(m.group("method"));
        String told = "Check.told(() -> " + m.group("call") + ")";
        if (m.group("name") != null) {
            bodies.append("        int ").append(m.group("name")).append(" = ").append(m.group("call")).append(";\n");
            told = "Integer.toString(" + m.group("name") + ")";
        }
        bodies.append("        Check.same(\"line ").append(number).append(": ").append(m.group("call")).append("\", ");
        bodies.append(told).append(", \"").append(due(m.group("answer"))).append("\");\n");
    }

    private static String due(String answer) {
        if (answer.equals("NONE")) {
            return Integer.toString(TernaryNet.NONE);
        }
        return answer.replace("throws ", "throws.");
    }

    private void holdToTheFace() {
        for (Method m : TernaryNet.class.getDeclaredMethods()) {
            if (Modifier.isPublic(m.getModifiers()) && !shown.contains(m.getName())) {
                faults.add("README.md shows no call of " + m.getName());
            }
        }
    }

    private String text() {
        return "/** What README.md shows; ReadmeSource wrote it. */\npublic final class ReadmeTest {\n"
            + "    public static void main(String[] args) {\n" + mains + "        Check.end();\n    }\n"
            + bodies + "}\n";
    }
}
