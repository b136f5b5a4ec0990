import java.io.IOException;
import java.io.UncheckedIOException;
import java.nio.file.Files;
import java.nio.file.Path;
import java.util.ArrayList;
import java.util.BitSet;
import java.util.LinkedHashMap;
import java.util.List;
import java.util.Map;
import java.util.Set;

/** The document, section by section: what a test cites has to stand there, and what no test cites is told at the end. */
final class Doc {

    private static final Path DOCUMENT = Path.of("../shared/DOC.md");

    /** What is told of an argument and names no boundary: what lies outside is named where it is thrown or REFUSED. */
    private static final Set<String> PLAIN_ARGUMENTS = Set.of(
            "the SEAT", "a SEAT", "the other SEAT", "the SIGN", "a PLACE", "its PLACE", "a length", "an ORDER", "how often",
            "where it begins", "where it ends", "how many SIGNS", "of how many", "the SIGN that it is then",
            "where a SPAN begins", "where a STRETCH begins");

    private static final Map<String, List<String>> LINES = linesBySection();
    private static final Map<String, BitSet> CITED = new LinkedHashMap<>();

    private Doc() {
    }

    /** The words stand in the section; they have a test, or name no boundary. */
    static void cite(String section, String words) {
        String text = text(section);
        int at = text.indexOf(words);
        Due.is("\"" + words + "\" stands in " + section, at >= 0 && !words.isEmpty(), true);
        while (at >= 0 && !words.isEmpty()) {
            CITED.computeIfAbsent(section, made -> new BitSet()).set(at, at + words.length());
            at = text.indexOf(words, at + 1);
        }
    }

    /** The section's line that begins so. */
    static String line(String section, String beginning) {
        for (String line : LINES.getOrDefault(section, List.of())) {
            if (line.startsWith(beginning)) {
                return line;
            }
        }
        return "no line begins with " + beginning;
    }

    /** Each word of each section has been cited. */
    static void allIsCited() {
        Due.is("the document's sections", LINES.keySet().containsAll(Set.of("What it is", "Description", "1", "2", "3")), true);
        for (int promise = 1; promise <= 38; promise++) {
            Due.is("the document has promise " + promise, LINES.containsKey("Promise " + promise), true);
        }
        for (String section : LINES.keySet()) {
            Due.is("without a test in " + section, uncited(section), "");
        }
    }

    private static String uncited(String section) {
        String text = text(section);
        BitSet cited = CITED.getOrDefault(section, new BitSet());
        StringBuilder left = new StringBuilder();
        for (int at = 0; at < text.length(); at++) {
            left.append(cited.get(at) ? '|' : text.charAt(at));
        }
        // Stops and blanks between two sentences belong to neither.
        return left.toString().replaceAll("[|.,;: ]*\\|[|.,;: ]*", " | ").replaceAll("^[| ]+|[| ]+$", "");
    }

    private static String text(String section) {
        return String.join(" ", LINES.getOrDefault(section, List.of()));
    }

    private static Map<String, List<String>> linesBySection() {
        Map<String, List<String>> sections = new LinkedHashMap<>();
        String section = "";
        for (String line : read().split("\n")) {
            String title = titleIn(line.trim());
            section = title.isEmpty() ? section : title;
            if (title.isEmpty() && !section.isEmpty() && isTelling(line.trim())) {
                sections.computeIfAbsent(section, made -> new ArrayList<>()).add(line.trim());
            }
        }
        // The face has a test of its own; what is not promised has nothing to hold.
        sections.remove("The public face");
        sections.remove("Not promised");
        return sections;
    }

    private static String titleIn(String line) {
        if (line.startsWith("## ")) {
            return line.substring(3).replaceFirst("^(Promise \\d+):.*", "$1");
        }
        return line.startsWith("== ") ? line.substring(3, line.indexOf('.')) : "";
    }

    private static boolean isTelling(String line) {
        if (line.startsWith("- `")) {
            return !PLAIN_ARGUMENTS.contains(line.substring(line.indexOf(": ") + 2));
        }
        return !line.isEmpty() && !line.startsWith("`") && !line.startsWith("----");
    }

    private static String read() {
        try {
            return Files.readString(DOCUMENT);
        } catch (IOException e) {
            throw new UncheckedIOException(e);
        }
    }
}
