import java.io.IOException;
import java.nio.file.Files;
import java.nio.file.Path;
import java.util.ArrayList;
import java.util.LinkedHashMap;
import java.util.List;
import java.util.Map;
import java.util.Set;
import java.util.TreeSet;

/**
 * The sentences of the document (or the parts between semicolons), and which of them have a test: a test names
 * the sentence that it stands for, so that none is forgotten and none is made up.
 */
final class Sentences {
    private final Map<String, List<String>> said = new LinkedHashMap<>();
    private final Map<String, Set<String>> tested = new LinkedHashMap<>();
    private final boolean known;
    private String section = "";

    /** Without the document the tests run all the same, but nothing tells whether they stand for its sentences. */
    Sentences(Path document) throws IOException {
        known = Files.exists(document);
        if (!known) {
            System.out.println("not compared with the document, which is not at " + document);
            return;
        }
        String text = Files.readString(document);
        for (String part : text.split("(?m)^## ")) {
            int end = part.indexOf('\n');
            if (end > 0 && part.matches("(?s)(What it is|Terms|Promise ).*")) {
                String heading = part.substring(0, end).trim();
                said.put(heading, sentences(part.substring(end)));
                tested.put(heading, new TreeSet<>());
            }
        }
    }

    /** The heading "1 NETS" stands inside a line of the document, the other ones on lines of their own. */
    private static List<String> sentences(String text) {
        String plain = text.replaceAll("(?m)^(```|========).*$", "").replace(" ======== 1 NETS ", "\n\n");
        List<String> found = new ArrayList<>();
        for (String paragraph : plain.split("\n\\s*\n")) {
            String line = paragraph.replaceAll("\\s+", " ").trim().replaceAll("^`[^`]*`: ", "");
            if (!line.isEmpty()) {
                addSentences(line, found);
            }
        }
        return found;
    }

    private static void addSentences(String line, List<String> found) {
        for (String sentence : line.split("(?<=[^.][.]) (?=[A-Z])")) {
            for (String part : sentence.split("; ")) {
                found.add(part.replaceAll("[.:]$", ""));
            }
        }
    }

    /** The headings of the document that begin so, in their order; none without the document. */
    List<String> headings(String beginning) {
        List<String> found = new ArrayList<>();
        for (String heading : said.keySet()) {
            if (heading.startsWith(beginning)) {
                found.add(heading);
            }
        }
        return found;
    }

    List<String> of(String heading) {
        return said.get(heading);
    }

    void section(String heading) {
        section = heading;
        if (!said.containsKey(heading)) {
            if (known) {
                Checks.begin(heading);
                Checks.tell("the document has no such section");
            }
            said.put(heading, new ArrayList<>());
            tested.put(heading, new TreeSet<>());
        }
    }

    void test(String sentence, Runnable test) {
        Checks.begin(section + ", \"" + sentence + "\"");
        if (known && !said.get(section).contains(sentence)) {
            Checks.tell("the document does not say this");
        }
        tested.get(section).add(sentence);
        try {
            test.run();
        } catch (RuntimeException e) {
            Checks.tell("ended by " + e + " at " + e.getStackTrace()[0]);
        }
    }

    void tellUntested() {
        for (String heading : said.keySet()) {
            Checks.begin(heading);
            for (String sentence : said.get(heading)) {
                if (!tested.get(heading).contains(sentence)) {
                    Checks.tell("\"" + sentence + "\" has no test");
                }
            }
        }
    }
}
