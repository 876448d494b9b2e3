import java.io.IOException;
import java.nio.file.Files;
import java.nio.file.Path;
import java.util.ArrayList;
import java.util.LinkedHashMap;
import java.util.List;
import java.util.Map;
import java.util.regex.Pattern;

/**
 * Compares the sentences that have a test with the document: each one must stand there in these
 * words, and no line of a promise that names a boundary may be without one.
 */
final class Document {
    private static final Path PATH = Path.of("..", "shared", "DOC.md");
    private static final Pattern BOUNDARY = Pattern.compile(
            "Throws|Undoable| \\d+ to \\d+|NONE| if |fewest|greatest|least|first|last");

    private Document() {
    }

    static void compare(List<Sentence.Quote> tested) throws IOException {
        if (!Files.isRegularFile(PATH)) {
            System.out.println(PATH + " is not there: the sentences are not compared with it");
            return;
        }
        Map<String, List<String>> sections = sections(Files.readAllLines(PATH));
        for (Sentence.Quote quote : tested) {
            List<String> lines = sections.getOrDefault(quote.heading(), List.of());
            Check.due("lines with the words of " + quote, Math.min(1, linesWith(lines, quote)), 1);
        }
        sections.forEach((heading, lines) -> {
            if (heading.startsWith("Promise ")) {
                lines.stream().filter(BOUNDARY.asPredicate())
                        .forEach(line -> dueTested(heading, line, tested));
            }
        });
    }

    /** The lines under each heading, of which a promise's name is left off. */
    private static Map<String, List<String>> sections(List<String> lines) {
        Map<String, List<String>> sections = new LinkedHashMap<>();
        List<String> now = new ArrayList<>();
        for (String line : lines) {
            if (line.startsWith("#")) {
                now = new ArrayList<>();
                sections.put(line.replaceAll("^#+ ", "").replaceAll("^(Promise \\d+):.*", "$1"), now);
            } else if (!line.isEmpty()) {
                now.add(line);
            }
        }
        return sections;
    }

    private static long linesWith(List<String> lines, Sentence.Quote quote) {
        return lines.stream().filter(line -> line.contains(quote.words())).count();
    }

    private static void dueTested(String heading, String line, List<Sentence.Quote> tested) {
        boolean found = tested.stream().anyMatch(
                quote -> quote.heading().equals(heading) && line.contains(quote.words()));
        Check.due("a test of " + heading + ", \"" + line + "\"", found ? 1 : 0, 1);
    }
}
