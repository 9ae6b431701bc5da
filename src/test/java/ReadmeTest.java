import java.io.File;
import java.io.IOException;
import java.lang.reflect.Method;
import java.lang.reflect.Modifier;
import java.net.URISyntaxException;
import java.nio.file.Files;
import java.nio.file.Path;
import java.util.ArrayList;
import java.util.List;
import java.util.Map;
import java.util.TreeMap;

/** README.md: the answers of its example are right, and it tells every call in the document's words, and every test. */
public final class ReadmeTest {
    private static final String NEW_OBJECT = "FailDiagnose";

    private ReadmeTest() {
    }

    /** The lines of the blocks that are marked as Java; they are one program. */
    private static List<String> exampleLines(List<String> readme) {
        List<String> found = new ArrayList<>();
        boolean inside = false;
        for (String line : readme) {
            if (line.startsWith("```")) {
                inside = line.equals("```java");
            } else if (inside) {
                found.add(line);
            }
        }
        return found;
    }

    private static void example(List<String> readme)
            throws IOException, URISyntaxException, ReflectiveOperationException {
        Checks.begin("the example");
        ReadmeExample example = new ReadmeExample(exampleLines(readme));
        example.run();
        for (Method method : FailDiagnose.class.getDeclaredMethods()) {
            if (Modifier.isPublic(method.getModifiers()) && !example.called().contains(method.getName())) {
                Checks.tell("it does not call " + method.getName());
            }
        }
    }

    /** The rows of the tables of calls, by the names of the methods. */
    private static Map<String, String> rows(List<String> readme) {
        Map<String, String> found = new TreeMap<>();
        for (String line : readme) {
            if (line.startsWith("| `")) {
                String name = line.substring(0, line.indexOf('(')).replaceAll(".*[ `]", "");
                if (found.put(name, line) != null) {
                    Checks.tell(name + " has two rows");
                }
            }
        }
        return found;
    }

    private static void faces(Map<String, String> rows) {
        Checks.begin("the calls");
        int methods = 0;
        for (Method method : FailDiagnose.class.getDeclaredMethods()) {
            if (Modifier.isPublic(method.getModifiers())) {
                methods++;
                String row = rows.getOrDefault(method.getName(), "| ` `");
                Checks.same("the face of " + method.getName(), row.split("`")[1].replaceAll(" \\w+(?=[,)])", ""),
                        face(method));
            }
        }
        Checks.due("rows, with that of the constructor", rows.size(), methods + 1);
    }

    private static String face(Method method) {
        List<String> types = new ArrayList<>();
        for (Class<?> type : method.getParameterTypes()) {
            types.add(type.getName());
        }
        return method.getReturnType().getName() + " " + method.getName() + "(" + String.join(", ", types) + ")";
    }

    private static void words(Map<String, String> rows) throws IOException {
        Sentences document = new Sentences(Path.of("../shared/DOC.md"));
        for (String heading : document.headings("Promise ")) {
            Checks.begin(heading);
            String name = heading.replaceAll(".*: ", "");
            String row = rows.getOrDefault(name.equals("A new object") ? NEW_OBJECT : name, "");
            for (String sentence : document.of(heading)) {
                if (!row.contains(sentence.replaceAll("^IndexOutOfBoundsException: (?=also if )", ""))) {
                    Checks.tell("README.md does not say: " + sentence);
                }
            }
        }
    }

    private static void testsAreTold(String readme) {
        Checks.begin("the tests");
        for (File test : new File("src/test/java").listFiles()) {
            String name = test.getName().replace(".java", "");
            if (!readme.contains("- `" + name + "` ")) {
                Checks.tell("README.md does not tell of " + name);
            }
        }
    }

    public static void main(String[] args) throws IOException, URISyntaxException, ReflectiveOperationException {
        List<String> readme = Files.readAllLines(Path.of("README.md"));
        example(readme);
        Map<String, String> rows = rows(readme);
        faces(rows);
        words(rows);
        testsAreTold(String.join("\n", readme));
        if (Checks.wrong() != 0) {
            System.exit(1);
        }
    }
}
