import java.nio.file.Files;
import java.nio.file.Path;
import java.util.ArrayList;
import java.util.LinkedHashSet;
import java.util.List;
import java.util.Set;
import java.util.TreeMap;
import java.util.regex.Matcher;
import java.util.regex.Pattern;

/** The document's sentences by their promise (0: the terms), and which of them a test has quoted. */
final class Sentences {
    static final int TERMS = 0;
    private static final Path DOCUMENT = Path.of("..", "shared", "DOC.md");
    private static final Pattern PROMISE = Pattern.compile("## Promise (\\d+): .*");
    /** Lines that say what stands where in the document, and nothing of what the bench does. */
    private static final Pattern OF_THE_DOCUMENT = Pattern.compile("Ahead of the calls .*|[A-Z][a-z]+( input)?\\.|The grammar of a script:"
            + "|A sheet is a stack of layers of dough and butter\\.|Folding multiplies the layers, .*"
            + "|The following happens in this order:|- `(sheet|lower|upper|layer|index|length)`: .*");

    private static final TreeMap<Integer, Set<String>> BY_PROMISE = new TreeMap<>();
    private static final Set<String> QUOTED = new LinkedHashSet<>();

    private Sentences() {
    }

    static void read() throws Exception {
        int promise = -1;
        for (String line : Files.readAllLines(DOCUMENT)) {
            Matcher heading = PROMISE.matcher(line);
            if (heading.matches()) {
                promise = Integer.parseInt(heading.group(1));
            } else if (line.startsWith("## ")) {
                promise = line.equals("## Terms") ? TERMS : -1;
            } else if (promise >= 0) {
                BY_PROMISE.computeIfAbsent(promise, key -> new LinkedHashSet<>()).addAll(sentences(line));
            }
        }
        Check.same("promises of the document", BY_PROMISE.size(), 1 + 58);
    }

    private static List<String> sentences(String line) {
        String text = line.strip().replaceFirst("^`[^`]*\\)[^`]*`: ", "");
        List<String> found = new ArrayList<>();
        if (!text.isEmpty() && !text.startsWith("```")) {
            found.addAll(List.of(text.split("(?<=\\.) (?=[A-Z])")));
        }
        return found;
    }

    /** The checks that follow are about this sentence, which the document must hold word for word. */
    static void says(int promise, String sentence) {
        Check.about("");
        boolean there = BY_PROMISE.getOrDefault(promise, Set.of()).contains(sentence);
        Check.same("promise " + promise + " holds: " + sentence, there, true);
        QUOTED.add(promise + " " + sentence);
        Check.about((promise == TERMS ? "terms" : "promise " + promise) + ": " + sentence);
    }

    static void allQuoted() {
        Check.about("");
        BY_PROMISE.forEach((promise, sentences) -> {
            for (String sentence : sentences) {
                boolean quoted = QUOTED.contains(promise + " " + sentence) || OF_THE_DOCUMENT.matcher(sentence).matches();
                Check.same("promise " + promise + " is tested: " + sentence, quoted, true);
            }
        });
    }
}
