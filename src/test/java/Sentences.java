import java.io.IOException;
import java.nio.file.Files;
import java.nio.file.Path;
import java.util.ArrayList;
import java.util.LinkedHashMap;
import java.util.List;
import java.util.Map;
import java.util.function.Consumer;

/**
 * The sentences of the document, each with a test of its own. In the end they are held against the document itself:
 * a sentence that is told must stand there, and none that stands there may be left out.
 */
final class Sentences {
    private static final Path DOCUMENT = Path.of("../shared/DOC.md");
    /** Run-in heads of the description: they say nothing. */
    private static final List<String> HEADS = List.of("Time and distance.", "Nodes.", "Messages.", "Exchanges.",
            "Ranges.", "Plans.", "Fixes.", "Undo.", "Exceptions.");

    private static final String ABOUT = "What it is";
    private static final String DESCRIPTION = "Description";
    private static final String PROMISE = "Promise ";

    private final Checks checks = new Checks();
    private final Map<String, List<String>> told = new LinkedHashMap<>();

    void about(String words, Consumer<Checks> test) {
        holds(ABOUT, words, test);
    }

    void description(String words, Consumer<Checks> test) {
        holds(DESCRIPTION, words, test);
    }

    void promise(int number, String words, Consumer<Checks> test) {
        holds(PROMISE + number, words, test);
    }

    private void holds(String section, String words, Consumer<Checks> test) {
        List<String> before = told.computeIfAbsent(section, key -> new ArrayList<>());
        checks.begin(section + ", \"" + words + "\"");
        checks.due("told before", false, () -> before.contains(words));
        before.add(words);
        int asked = checks.asked();
        test.accept(checks);
        checks.due("has a test", true, () -> checks.asked() > asked);
    }

    void finish(String name) throws IOException {
        checks.begin("document");
        if (Files.exists(DOCUMENT)) {
            compare(sections(Files.readAllLines(DOCUMENT)));
        } else {
            System.out.println("no " + DOCUMENT + ": the sentences are not held against it");
        }
        checks.finish(name);
    }

    private void compare(Map<String, List<String>> document) {
        for (Map.Entry<String, List<String>> section : document.entrySet()) {
            List<String> here = told.getOrDefault(section.getKey(), List.of());
            for (String sentence : section.getValue()) {
                boolean tested = here.stream().anyMatch(sentence::contains);
                checks.due(section.getKey() + " has a test of: " + sentence, true, () -> tested);
            }
        }
        for (Map.Entry<String, List<String>> section : told.entrySet()) {
            List<String> there = document.getOrDefault(section.getKey(), List.of());
            for (String words : section.getValue()) {
                boolean written = there.stream().anyMatch(sentence -> sentence.contains(words));
                checks.due(section.getKey() + " says: " + words, true, () -> written);
            }
        }
    }

    /** The sentences before the face, of the description up to its examples, and of the promises. */
    private static Map<String, List<String>> sections(List<String> lines) {
        Map<String, List<String>> sections = new LinkedHashMap<>();
        String section = "";
        StringBuilder paragraph = new StringBuilder();
        for (String line : lines) {
            boolean head = line.startsWith("## ");
            if (head || line.isBlank() || line.startsWith("- ")) {
                split(paragraph, section, sections);
            }
            if (head) {
                section = line.substring(3).replaceAll(":.*", "");
            } else if (line.startsWith("Examples: ")) {
                section = "";
            } else {
                paragraph.append(line).append(' ');
            }
        }
        split(paragraph, section, sections);
        return sections;
    }

    private static void split(StringBuilder paragraph, String section, Map<String, List<String>> sections) {
        String text = paragraph.toString().strip();
        paragraph.setLength(0);
        boolean names = text.startsWith("`") || text.startsWith("----");
        boolean promised = section.equals(ABOUT) || section.equals(DESCRIPTION) || section.startsWith(PROMISE);
        if (text.isEmpty() || names || !promised) {
            return;
        }
        List<String> sentences = sections.computeIfAbsent(section, key -> new ArrayList<>());
        for (String sentence : text.split("(?<=\\.\\)?) (?=[A-Z(])")) {
            if (!HEADS.contains(sentence)) {
                sentences.add(sentence);
            }
        }
    }
}
