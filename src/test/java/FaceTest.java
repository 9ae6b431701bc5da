import java.io.IOException;
import java.lang.reflect.Constructor;
import java.lang.reflect.Field;
import java.lang.reflect.Method;
import java.lang.reflect.Modifier;
import java.nio.file.Files;
import java.nio.file.Path;
import java.util.List;
import java.util.Set;
import java.util.TreeSet;

/** The class has the document's public face and no other, and its text keeps the rules that words can tell. */
public final class FaceTest {
    private static final String[] FACE = {
        "int input() IllegalStateException",
        "int gate(int,int,int) IndexOutOfBoundsException IllegalStateException IllegalArgumentException",
        "int output(int) IndexOutOfBoundsException IllegalStateException",
        "int patterns(int) IllegalArgumentException",
        "long pattern(int,long) IndexOutOfBoundsException",
        "long row(int) IndexOutOfBoundsException",
        "long fail(int,long) IndexOutOfBoundsException",
        "int near(int,int) IndexOutOfBoundsException IllegalStateException IllegalArgumentException",
        "long shows(int,int,int) IndexOutOfBoundsException",
        "int run()",
        "int suspect(int,int) IndexOutOfBoundsException IllegalStateException",
        "int pair(int) IndexOutOfBoundsException IllegalStateException",
        "int join() IllegalStateException",
        "int share(int) IndexOutOfBoundsException",
        "void chain(int) IllegalArgumentException",
        "int caught(long,long) IllegalStateException",
        "int span(int,int) IndexOutOfBoundsException IllegalStateException",
        "int shape(int,int,int,int,int) IndexOutOfBoundsException IllegalStateException IllegalArgumentException",
        "int area(int,int) IndexOutOfBoundsException IllegalArgumentException",
        "int common(int,int,int) IndexOutOfBoundsException IllegalArgumentException",
        "int count(int) IndexOutOfBoundsException",
        "void clear()",
    };

    private static int wrong = 0;

    private static void check(boolean holds, String what) {
        if (!holds) {
            wrong++;
            System.out.println(what);
        }
    }

    private static String face(Method m) {
        StringBuilder text = new StringBuilder(m.getReturnType().getName() + " " + m.getName() + "(");
        for (Class<?> type : m.getParameterTypes()) {
            text.append(text.toString().endsWith("(") ? "" : ",").append(type.getName());
        }
        text.append(")");
        for (Class<?> type : m.getExceptionTypes()) {
            text.append(" ").append(type.getSimpleName());
        }
        return text.toString();
    }

    private static void members() {
        Class<?> c = FailDiagnose.class;
        check(Modifier.isPublic(c.getModifiers()) && Modifier.isFinal(c.getModifiers()), "the class is public final");
        Set<String> names = new TreeSet<>();
        Set<String> found = new TreeSet<>();
        for (Method m : c.getDeclaredMethods()) {
            if (!Modifier.isPrivate(m.getModifiers())) {
                names.add(m.getName());
                found.add(face(m));
            }
        }
        check(found.equals(new TreeSet<>(List.of(FACE))), "the face is " + found);
        for (Method m : c.getDeclaredMethods()) {
            check(!Modifier.isPrivate(m.getModifiers()) || !names.contains(m.getName()), "private " + m.getName());
        }
        for (Field f : c.getDeclaredFields()) {
            check(Modifier.isPrivate(f.getModifiers()) || f.getName().equals("NONE"), "field " + f.getName());
            check(!Modifier.isStatic(f.getModifiers()) || Modifier.isFinal(f.getModifiers()), "static " + f.getName());
        }
        for (Constructor<?> made : c.getDeclaredConstructors()) {
            check(Modifier.isPublic(made.getModifiers()) && made.getParameterCount() == 0, "constructor " + made);
        }
        check(c.getDeclaredClasses().length <= 12, "more than twelve classes");
        sizes(c);
        for (Class<?> inside : c.getDeclaredClasses()) {
            sizes(inside);
            check(Modifier.isPrivate(inside.getModifiers()), inside + " is private");
            check(Modifier.isStatic(inside.getModifiers()), inside + " is static");
            for (Method m : inside.getDeclaredMethods()) {
                check(!names.contains(m.getName()), inside + " has a method named " + m.getName());
            }
        }
    }

    private static void sizes(Class<?> c) {
        int fields = 0;
        for (Field f : c.getDeclaredFields()) {
            fields += Modifier.isStatic(f.getModifiers()) ? 0 : 1;
        }
        check(fields <= 20, c + " has more than twenty fields");
        for (Method m : c.getDeclaredMethods()) {
            check(m.getParameterCount() <= 7, c + ": more than seven parameters of " + m.getName());
        }
    }

    /** Objects are made with a field or in the constructor of the face alone, so that no call fills the room. */
    private static void makers(String code) {
        for (String line : code.split("\n")) {
            check(!line.contains("new ") || line.contains("throw new ")
                    || line.matches(" {8}private final \\S+ \\w+ = new .*;")
                    || line.matches(" {8}\\w+ = new \\w+\\(.*\\);"), "made in a call: " + line);
        }
    }

    private static void words() throws IOException {
        String text = Files.readString(Path.of("src/main/java/FailDiagnose.java"));
        String code = text.replaceAll("(?s)/\\*.*?\\*/", "").replaceAll("//[^\n]*", "").replaceAll("\"[^\"]*\"", "");
        for (String no : new String[] {"->", "::", "finally", "synchronized", "assert ", "import java.io", "System.out",
            "Random", "nanoTime", "currentTimeMillis", "Thread", "Exact(", "try ", "package ", "static {", "var "}) {
            check(!code.contains(no), "the class has " + no);
        }
        makers(code);
        check(text.chars().allMatch(c -> c < 128), "the class has plain characters alone");
    }

    public static void main(String[] args) throws IOException {
        members();
        words();
        if (wrong != 0) {
            System.exit(1);
        }
    }
}
