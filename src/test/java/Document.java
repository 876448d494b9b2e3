import java.io.IOException;
import java.nio.file.Files;
import java.nio.file.Path;
import java.util.ArrayList;
import java.util.LinkedHashMap;
import java.util.List;
import java.util.Map;
import java.util.Set;
import java.util.TreeSet;
import java.util.regex.Matcher;
import java.util.regex.Pattern;

/**
 * Compares the tested sentences with the document, from its first line to its last: each one must
 * stand there in these words, and no word of the document may be left without one.
 */
final class Document {
    private static final Path PATH = Path.of("..", "shared", "DOC.md");
    private static final Pattern WORD = Pattern.compile("\\w+");
    private static final Pattern PROMISE = Pattern.compile("Promise (\\d+): (.*)");
    /** What stands between two tested parts of a sentence. */
    private static final Set<String> JOINING = Set.of("and", "or");

    private Document() {
    }

    static void compare(List<Sentence.Quote> quotes) throws IOException {
        if (!Files.isRegularFile(PATH)) {
            System.out.println(PATH + " is not there: the sentences are not compared with it");
            return;
        }
        List<String> lines = Files.readAllLines(PATH);
        promisesInOrder(lines);
        Map<String, List<String>> sections = sections(lines);
        for (Sentence.Quote quote : quotes) {
            long found = sections.getOrDefault(quote.heading(), List.of()).stream()
                    .filter(line -> line.contains(quote.words())).count();
            Check.due("lines with the words of " + quote, Math.min(1, found), 1);
        }
        sections.forEach((heading, inside) ->
                inside.forEach(line -> noWordIsLeft(heading, line, quotes)));
    }

    /** The heading of each promise bears its number and the name of its call. */
    private static void promisesInOrder(List<String> lines) {
        List<String> due = new ArrayList<>(List.of("A new object"));
        Face.METHODS.forEach(method -> due.add(Face.nameOf(method)));
        int promise = 0;
        for (String line : lines) {
            Matcher heading = PROMISE.matcher(line.replaceAll("^#+ ", ""));
            if (line.startsWith("#") && heading.matches()) {
                promise++;
                Check.dueText("number of a promise", heading.group(1), "" + promise);
                Check.dueText("its name", heading.group(2),
                        promise > due.size() ? "none" : due.get(promise - 1));
            }
        }
        Check.due("promises", promise, due.size());
    }

    /** The lines under each heading, of which a promise's name is left off. */
    private static Map<String, List<String>> sections(List<String> lines) {
        Map<String, List<String>> sections = new LinkedHashMap<>();
        List<String> now = new ArrayList<>();
        sections.put("", now);
        for (String line : lines) {
            if (line.startsWith("#")) {
                now = new ArrayList<>();
                sections.put(line.replaceAll("^#+ ", "").replaceAll("^(Promise \\d+):.*", "$1"), now);
            } else if (!line.isEmpty() && !line.startsWith("```")) {
                now.add(line);
            }
        }
        return sections;
    }

    private static void noWordIsLeft(String heading, String line, List<Sentence.Quote> quotes) {
        StringBuilder left = new StringBuilder(line);
        for (Sentence.Quote quote : quotes) {
            String words = quote.words();
            if (quote.heading().equals(heading)) {
                for (int i = line.indexOf(words); i >= 0; i = line.indexOf(words, i + 1)) {
                    left.replace(i, i + words.length(), " ".repeat(words.length()));
                }
            }
        }
        Set<String> untested = new TreeSet<>();
        for (Matcher word = WORD.matcher(left); word.find();) {
            if (!JOINING.contains(word.group())) {
                untested.add(word.group());
            }
        }
        Check.dueText("words of " + heading + ", \"" + line + "\", that have no test",
                untested.toString(), "[]");
    }
}
