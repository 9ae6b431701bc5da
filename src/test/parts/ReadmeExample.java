import java.io.IOException;
import java.net.URISyntaxException;
import java.nio.file.Files;
import java.nio.file.Path;
import java.util.List;
import java.util.Set;
import java.util.TreeSet;
import java.util.regex.Matcher;
import java.util.regex.Pattern;
import javax.tools.ToolProvider;

/**
 * The example of README.md, made into a program that compares each answer with the one that stands behind the call:
 * so the text that is read is the text that is run.
 */
final class ReadmeExample {
    private static final String PROGRAM = "ExampleProgram";
    private static final Pattern NEW_OBJECT = Pattern.compile("FailDiagnose \\w+ = new FailDiagnose\\(\\);");
    private static final Pattern CALL =
            Pattern.compile("((?:int|long) (\\w+) = )?(\\w+\\.(\\w+)\\([^;]*\\));(?: *// (.*))?");
    private static final Pattern NUMBER = Pattern.compile("(-?\\d+)(?:$|: .+)");
    private static final Pattern REFUSED = Pattern.compile("throws (\\w+)(?:$|: .+)");
    private static final Set<String> WITHOUT_ANSWER = Set.of("chain", "clear");

    private final StringBuilder statements = new StringBuilder();
    private final Set<String> called = new TreeSet<>();

    ReadmeExample(List<String> lines) {
        for (String line : lines) {
            if (!line.isBlank()) {
                translate(line);
            }
        }
    }

    /** The names of the methods that the example calls. */
    Set<String> called() {
        return called;
    }

    private void translate(String line) {
        Matcher call = CALL.matcher(line);
        if (NEW_OBJECT.matcher(line).matches()) {
            statements.append(line).append('\n');
        } else if (!call.matches()) {
            Checks.tell("no call is read from " + line);
        } else {
            called.add(call.group(4));
            translateCall(call);
        }
    }

    private void translateCall(Matcher call) {
        String comment = call.group(5) == null ? "" : call.group(5);
        Matcher number = NUMBER.matcher(comment);
        Matcher refused = REFUSED.matcher(comment);
        if (number.matches() && call.group(1) != null) {
            statements.append(call.group(1)).append(call.group(3)).append(";\n");
            compare(call.group(3), call.group(2), number.group(1));
        } else if (number.matches()) {
            compare(call.group(3), call.group(3), number.group(1));
        } else if (refused.matches()) {
            statements.append("Checks.refused(").append(refused.group(1)).append(".class, \"").append(call.group(3))
                    .append("\", () -> ").append(call.group(3)).append(");\n");
        } else if (comment.isEmpty() && WITHOUT_ANSWER.contains(call.group(4))) {
            statements.append(call.group(3)).append(";\n");
        } else {
            Checks.tell("no answer stands behind " + call.group(3));
        }
    }

    private void compare(String call, String got, String want) {
        statements.append("Checks.due(\"").append(call).append("\", ").append(got).append(", ").append(want)
                .append("L);\n");
    }

    /** Compiles the program to where the tests are, so that it finds the class and the checks, and runs it. */
    void run() throws IOException, URISyntaxException, ReflectiveOperationException {
        Path classes = Path.of(ReadmeExample.class.getProtectionDomain().getCodeSource().getLocation().toURI());
        Path source = classes.resolve(PROGRAM + ".java");
        Files.writeString(source, "final class " + PROGRAM + " {\nstatic void run() {\n" + statements + "}\n}\n");
        String at = classes.toString();
        int failed = ToolProvider.getSystemJavaCompiler().run(null, null, null,
                "-cp", at, "-d", at, source.toString());
        if (failed != 0) {
            Checks.tell("the example does not compile");
            return;
        }
        Class.forName(PROGRAM).getDeclaredMethod("run").invoke(null);
    }
}
