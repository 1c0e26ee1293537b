import java.nio.charset.StandardCharsets;
import java.nio.file.Files;
import java.nio.file.Path;
import java.util.ArrayList;
import java.util.Comparator;
import java.util.List;
import java.util.Map;
import java.util.Set;
import java.util.TreeMap;
import java.util.TreeSet;

/** The document's sentences, each ahead of its test; in the end each must stand in the document, and none be left over. */
final class Sentences {
    static final int TERMS = 0;
    private static final int WHAT_IT_IS = -1;
    private static final Path DOCUMENT = Path.of("../shared/DOC.md");

    private static final Map<Integer, Set<String>> tested = new TreeMap<>();

    private Sentences() {
    }

    /** What follows, up to the next sentence, is the test of this one. */
    static void of(int promise, String words) {
        tested.computeIfAbsent(promise, p -> new TreeSet<>()).add(words);
        Due.begin((promise == TERMS ? "Terms" : promise == WHAT_IT_IS ? "What it is" : "Promise " + promise) + ", \"" + words + "\"");
    }

    static void ofWhatItIs(String words) {
        of(WHAT_IT_IS, words);
    }

    /** Without the document (it stands beside the project, not in it) nothing is compared. */
    static void compareWithDocument() throws Exception {
        Due.begin("every sentence has its test");
        if (!Files.exists(DOCUMENT)) {
            System.out.println("no " + DOCUMENT + ": not compared");
            Due.is("not compared", 0, 0);
            return;
        }
        String document = Files.readString(DOCUMENT, StandardCharsets.UTF_8);
        for (String section : document.split("\n## ")) {
            String title = section.substring(0, Math.max(0, section.indexOf('\n')));
            String body = section.substring(title.length());
            if (title.equals("Terms")) {
                compare(TERMS, body.replaceAll("Ahead of the calls [^-]*---- [0-9] [a-z, ]*", ""));
            } else if (title.startsWith("Promise ")) {
                compare(Integer.parseInt(title.replaceAll("Promise ([0-9]+):.*", "$1")), body.replaceFirst("`[^`]*`:", ""));
            } else if (title.startsWith("What it is")) {
                compare(WHAT_IT_IS, body.substring(body.indexOf("An object is used")));
            }
        }
        Due.is("sections without their like in the document", tested.size(), 0);
    }

    private static void compare(int promise, String body) {
        String left = oneBlank(body.replace("```text", "").replace("```", "").replace("========", ""));
        List<String> words = new ArrayList<>(tested.getOrDefault(promise, Set.of()));
        tested.remove(promise);
        // The longer ones first: a shorter one may stand within one of them, too.
        words.sort(Comparator.comparing(String::length).reversed());
        for (String one : words) {
            Due.is("section " + promise + " holds \"" + one + "\"", left.contains(oneBlank(one)) ? 1 : 0, 1);
            left = left.replace(oneBlank(one), "|");
        }
        Due.is("section " + promise + " without a test: " + left, left.matches("[ .,;:|]*") ? 1 : 0, 1);
    }

    private static String oneBlank(String text) {
        return text.replaceAll("\\s+", " ").trim();
    }
}
