import java.io.IOException;
import java.nio.file.Files;
import java.nio.file.Path;
import java.util.ArrayList;
import java.util.LinkedHashMap;
import java.util.List;
import java.util.Map;

/**
 * The sentences of the document, each under its heading, so that a test can say which one it is of, and
 * so that one that no test is of is found: also a sentence that the document says anew.
 */
final class Document {
    private static final Path PLACE = Path.of("../shared/DOC.md");
    /** Where a sentence ends and another begins in one line. */
    private static final String BETWEEN = "(?<=\\.) +(?=[A-Z])";

    private final Check check;
    private final Map<String, List<String>> sections = new LinkedHashMap<>();
    private String section = "";
    private String open = "";
    private int comparedBefore = 0;

    Document(Check check) throws IOException {
        this.check = check;
        List<String> sentences = new ArrayList<>();
        boolean isCode = false;
        for (String line : Files.readAllLines(PLACE)) {
            if (line.startsWith("#")) {
                sentences = new ArrayList<>();
                sections.put(line.replaceAll("^#+ |:.*", ""), sentences);
            } else if (line.startsWith("```")) {
                isCode = !isCode;
            } else if (!isCode && !line.isBlank()) {
                sentences.addAll(List.of(line.strip().split(BETWEEN)));
            }
        }
    }

    /** What follows is of the sentences under this heading, all of which must be cited before the next. */
    void under(String heading) {
        close();
        section = heading;
        check.same("there is the heading " + heading, sections.containsKey(heading), true);
    }

    /** What is compared from here to the next is the test of the sentence that begins so. */
    void cite(String beginning) {
        closeSentence();
        List<String> found = new ArrayList<>();
        for (String sentence : sections.getOrDefault(section, List.of())) {
            if (sentence.startsWith(beginning)) {
                found.add(sentence);
            }
        }
        check.part(section);
        check.same("sentences not yet cited that begin with " + beginning, found.size(), 1);
        if (found.size() == 1) {
            sections.get(section).remove(found.get(0));
        }
        open = section + ": " + beginning;
        check.part(open);
        comparedBefore = check.compared();
    }

    /** The sentence names no case at a boundary: it explains a word, or other sentences say it all. */
    void pass(String beginning) {
        cite(beginning);
        open = "";
    }

    private void closeSentence() {
        if (!open.isEmpty()) {
            check.same("the sentence has a test", check.compared() > comparedBefore, true);
        }
        open = "";
    }

    private void close() {
        closeSentence();
        check.part(section);
        if (!section.isEmpty()) {
            check.same("sentences without a test", sections.remove(section), List.of());
        }
    }

    /** Ends; headings that begin with one of these are no part of this test. */
    void end(String... others) {
        close();
        check.part("the document");
        for (String heading : sections.keySet()) {
            boolean isOther = false;
            for (String other : others) {
                isOther |= heading.startsWith(other);
            }
            check.same("the heading " + heading + " is tested somewhere", isOther, true);
        }
    }
}
