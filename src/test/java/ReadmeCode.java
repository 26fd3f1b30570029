import java.io.IOException;
import java.lang.reflect.Method;
import java.lang.reflect.Modifier;
import java.nio.file.DirectoryStream;
import java.nio.file.Files;
import java.nio.file.Path;
import java.util.ArrayList;
import java.util.List;
import java.util.regex.Matcher;
import java.util.regex.Pattern;

/** Makes a test of the Java that README.md shows: what stands behind a call there is what it must answer. */
final class ReadmeCode {

    static final String TEST_NAME = "ReadmeTest";

    // A call and its answer, perhaps with a remark: "x.length();  // 2: both of them".
    private static final Pattern ANSWERED =
        Pattern.compile("(.+);\\s+// (true|false|NONE|-?\\d+|\"(?:[^\"\\\\]|\\\\.)*\")(?:: .*)?");
    private static final Pattern CALL = Pattern.compile("(x\\.|read\\(|again\\().*");

    private final List<String> members = new ArrayList<>();
    private final List<String> statements = new ArrayList<>();

    /** The arguments are the project's directory and the one into which the test is written. */
    public static void main(String[] args) throws IOException {
        Path root = Path.of(args[0]);
        List<String> lines = Files.readAllLines(root.resolve("README.md"));
        ReadmeCode code = new ReadmeCode();
        code.collect(lines);
        code.requireAllCalls();
        requireAllTests(root.resolve("src/test/java"), String.join("\n", lines));
        Files.write(Path.of(args[1]).resolve(TEST_NAME + ".java"), code.test());
    }

    private void collect(List<String> lines) {
        boolean inJava = false;
        boolean isMember = false;
        for (int k = 0; k < lines.size(); k++) {
            String line = lines.get(k);
            if (line.startsWith("```")) {
                inJava = line.equals("```java");
                isMember = inJava && lines.get(k + 1).startsWith("static ");
            } else if (inJava && isMember) {
                members.add(line);
            } else if (inJava) {
                statements.add(statement(line, k + 1));
            }
        }
    }

    private static String statement(String line, int number) {
        Matcher answered = ANSWERED.matcher(line);
        if (answered.matches()) {
            return checked("README.md, line " + number, answered.group(1), answered.group(2));
        }
        if (CALL.matcher(line).matches() && !line.equals("x.wipe();") || line.contains("// ")) {
            throw new IllegalStateException("README.md, line " + number + " tells no answer: " + line);
        }
        return line;
    }

    private static String checked(String place, String call, String answer) {
        String what = '"' + place + ", " + call.replace("\\", "\\\\").replace("\"", "\\\"") + '"';
        switch (answer) {
            case "true":
                return "check.yes(" + what + ", " + call + ");";
            case "false":
                return "check.no(" + what + ", " + call + ");";
            case "NONE":
                return "check.same(" + what + ", " + call + ", CodePointSets.NONE);";
            default:
                return "check.same(" + what + ", " + call + ", " + answer + ");";
        }
    }

    /** README.md must show the use of the whole class. */
    private void requireAllCalls() {
        String all = String.join("\n", statements);
        for (Method method : CodePointSets.class.getDeclaredMethods()) {
            if (Modifier.isPublic(method.getModifiers()) && !all.contains("x." + method.getName() + "(")) {
                throw new IllegalStateException("README.md shows no call of " + method.getName());
            }
        }
    }

    private static void requireAllTests(Path directory, String readme) throws IOException {
        try (DirectoryStream<Path> files = Files.newDirectoryStream(directory, "*Test.java")) {
            for (Path file : files) {
                String name = file.getFileName().toString().replace(".java", "");
                if (!readme.contains('`' + name + '`')) {
                    throw new IllegalStateException("README.md does not name " + name);
                }
            }
        }
    }

    private List<String> test() {
        List<String> rows = new ArrayList<>();
        rows.add("public final class " + TEST_NAME + " {");
        rows.addAll(members);
        rows.add("public static void main(String[] args) {");
        rows.add("Check check = new Check();");
        rows.addAll(statements);
        rows.add("check.finish();");
        rows.add("}");
        rows.add("}");
        return rows;
    }
}
