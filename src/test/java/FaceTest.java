import java.io.IOException;
import java.lang.reflect.Constructor;
import java.lang.reflect.Field;
import java.lang.reflect.Method;
import java.lang.reflect.Modifier;
import java.nio.file.Files;
import java.nio.file.Path;
import java.util.List;
import java.util.Set;
import java.util.TreeSet;
import java.util.regex.Matcher;
import java.util.regex.Pattern;

/** The class has the document's public face and no other, and keeps the rules that its text and members tell. */
public final class FaceTest {
    private static final String[] FACE = {
        "int input() IllegalStateException",
        "int gate(int,int,int) IndexOutOfBoundsException IllegalStateException IllegalArgumentException",
        "int output(int) IndexOutOfBoundsException IllegalStateException",
        "int patterns(int) IllegalArgumentException",
        "long pattern(int,long) IndexOutOfBoundsException",
        "long row(int) IndexOutOfBoundsException",
        "long fail(int,long) IndexOutOfBoundsException",
        "int near(int,int) IndexOutOfBoundsException IllegalStateException IllegalArgumentException",
        "long shows(int,int,int) IndexOutOfBoundsException",
        "int run()",
        "int suspect(int,int) IndexOutOfBoundsException IllegalStateException",
        "int pair(int) IndexOutOfBoundsException IllegalStateException",
        "int join() IllegalStateException",
        "int share(int) IndexOutOfBoundsException",
        "void chain(int) IllegalArgumentException",
        "int caught(long,long) IllegalStateException",
        "int span(int,int) IndexOutOfBoundsException IllegalStateException",
        "int shape(int,int,int,int,int) IndexOutOfBoundsException IllegalStateException IllegalArgumentException",
        "int area(int,int) IndexOutOfBoundsException IllegalArgumentException",
        "int common(int,int,int) IndexOutOfBoundsException IllegalArgumentException",
        "int count(int) IndexOutOfBoundsException",
        "void clear()",
    };

    private static int wrong = 0;

    private static void check(boolean holds, String what) {
        if (!holds) {
            wrong++;
            System.out.println(what);
        }
    }

    private static String face(Method m) {
        StringBuilder text = new StringBuilder(m.getReturnType().getName() + " " + m.getName() + "(");
        for (Class<?> type : m.getParameterTypes()) {
            text.append(text.toString().endsWith("(") ? "" : ",").append(type.getName());
        }
        text.append(")");
        for (Class<?> type : m.getExceptionTypes()) {
            text.append(" ").append(type.getSimpleName());
        }
        return text.toString();
    }

    private static void members() {
        Class<?> c = FailDiagnose.class;
        check(Modifier.isPublic(c.getModifiers()) && Modifier.isFinal(c.getModifiers()), "the class is public final");
        Set<String> names = new TreeSet<>();
        Set<String> found = new TreeSet<>();
        for (Method m : c.getDeclaredMethods()) {
            if (!Modifier.isPrivate(m.getModifiers())) {
                names.add(m.getName());
                found.add(face(m));
            }
        }
        check(found.equals(new TreeSet<>(List.of(FACE))), "the face is " + found);
        for (Method m : c.getDeclaredMethods()) {
            check(!Modifier.isPrivate(m.getModifiers()) || !names.contains(m.getName()), "private " + m.getName());
        }
        for (Field f : c.getDeclaredFields()) {
            check(Modifier.isPrivate(f.getModifiers()) || f.getName().equals("NONE"), "field " + f.getName());
            check(!Modifier.isStatic(f.getModifiers()) || Modifier.isFinal(f.getModifiers()), "static " + f.getName());
        }
        for (Constructor<?> made : c.getDeclaredConstructors()) {
            check(Modifier.isPublic(made.getModifiers()) && made.getParameterCount() == 0, "constructor " + made);
        }
        check(c.getDeclaredClasses().length <= 12, "more than twelve classes");
        sizes(c);
        for (Class<?> inside : c.getDeclaredClasses()) {
            sizes(inside);
            check(Modifier.isPrivate(inside.getModifiers()), inside + " is private");
            check(Modifier.isStatic(inside.getModifiers()), inside + " is static");
            for (Method m : inside.getDeclaredMethods()) {
                check(!names.contains(m.getName()), inside + " has a method named " + m.getName());
            }
        }
    }

    /** The document's own text of the face, if it is there, has the same methods. */
    private static void faceOfTheDocument() throws IOException {
        Path document = Path.of("../shared/DOC.md");
        if (!Files.exists(document)) {
            System.out.println("the face is not compared with the document, which is not at " + document);
            return;
        }
        Set<String> said = new TreeSet<>();
        Matcher method = Pattern.compile("(?m)^    public (\\w+ \\w+\\(.*\\).*);$").matcher(Files.readString(document));
        while (method.find()) {
            said.add(method.group(1).replace(" throws", "").replace(", I", " I").replaceAll(" \\w+(?=[,)])", "")
                    .replace(", ", ","));
        }
        check(said.equals(new TreeSet<>(List.of(FACE))), "the document's face is " + said);
    }

    private static void sizes(Class<?> c) {
        int fields = 0;
        for (Field f : c.getDeclaredFields()) {
            fields += Modifier.isStatic(f.getModifiers()) ? 0 : 1;
        }
        check(fields <= 20, c + " has more than twenty fields");
        for (Method m : c.getDeclaredMethods()) {
            check(m.getParameterCount() <= 7, c + ": more than seven parameters of " + m.getName());
        }
    }

    /** Objects are made with a field or in the constructor of the face alone, so that no call fills the room. */
    private static void makers(String code) {
        for (String line : code.split("\n")) {
            check(!line.contains("new ") || line.contains("throw new ")
                    || line.matches(" {8}private final \\S+ \\w+ = new .*;")
                    || line.matches(" {8}\\w+ = new \\w+\\(.*\\);"), "made in a call: " + line);
        }
    }

    /** Rules 4 and 6: no other part of the library is named, and what is thrown is what the document names. */
    private static void library(String code) {
        Set<String> allowed = Set.of("Math.min", "Math.max", "Long.bitCount", "System.arraycopy", "Arrays.fill");
        Matcher named = Pattern.compile("\\b[A-Z]\\w*\\.[a-z]\\w*").matcher(code);
        while (named.find()) {
            check(allowed.contains(named.group()), "the class calls " + named.group());
        }
        for (String line : code.split("\n")) {
            check(!line.startsWith("import ") || line.equals("import java.util.Arrays;"), "the class has " + line);
            check(!line.contains("throw ")
                    || line.matches(" *throw new (IndexOutOfBounds|IllegalState|IllegalArgument)Exception\\(\\);"),
                    "thrown in another way: " + line);
        }
    }

    /** Rule 11: a method ends at a brace that stands as far to the right as its first line. */
    private static void lengths(String code) {
        String[] lines = code.split("\n");
        for (int first = 0; first < lines.length; first++) {
            if (lines[first].matches("( {4}| {8})[a-z][^=;]*\\([^;]*")) {
                String end = lines[first].replaceAll("\\S.*", "") + "}";
                int last = first;
                while (last < lines.length && !lines[last].equals(end)) {
                    last++;
                }
                check(last - first < 60, "longer than 60 lines: " + lines[first]);
            }
        }
    }

    private static void words() throws IOException {
        String text = Files.readString(Path.of("src/main/java/FailDiagnose.java"));
        String code = text.replaceAll("(?s)/\\*.*?\\*/", "").replaceAll("//[^\n]*", "").replaceAll("\"[^\"]*\"", "");
        for (String no : new String[] {"->", "::", "finally", "synchronized", "assert ", "import java.io", "System.out",
            "Random", "nanoTime", "currentTimeMillis", "Thread", "Exact(", "try ", "package ", "static {", "var "}) {
            check(!code.contains(no), "the class has " + no);
        }
        makers(code);
        library(code);
        lengths(code);
        check(text.chars().allMatch(c -> c < 128), "the class has plain characters alone");
    }

    public static void main(String[] args) throws IOException {
        members();
        check(FailDiagnose.NONE == -1, "NONE is -1");
        faceOfTheDocument();
        words();
        if (wrong != 0) {
            System.exit(1);
        }
    }
}
