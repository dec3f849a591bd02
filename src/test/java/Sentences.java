import java.io.IOException;
import java.nio.file.Files;
import java.nio.file.Path;
import java.util.ArrayList;
import java.util.HashSet;
import java.util.List;
import java.util.Set;
import java.util.stream.Collectors;

/** Names the sentence of the document that the next checks are for; tells which sentences no check was for. */
final class Sentences {

    private static final Path DOCUMENT = Path.of("../shared/DOC.md");

    private final Check check;
    private final List<String> lines;
    private final Set<String> quoted = new HashSet<>();

    Sentences(Check check) throws IOException {
        this.check = check;
        this.lines = Files.readAllLines(DOCUMENT);
    }

    void ofDocument(String words) {
        name("the document", words, String.join(" ", lines).contains(words));
    }

    void ofDescription(String words) {
        name("Description", words, description().contains(words));
    }

    void ofPromise(int promise, String words) {
        name("Promise " + promise, words, linesOf(promise).contains(words));
    }

    private void name(String place, String words, boolean stands) {
        String sentence = place + ": " + words;
        check.under(sentence);
        check.due("that the sentence stands there", true, () -> stands);
        quoted.add(sentence);
    }

    /** What is left of the description when all sentences that were named are taken out. */
    String leftOfDescription() {
        String left = description();
        for (String sentence : quoted) {
            left = left.replace(sentence.substring("Description: ".length()), "");
        }
        return left.replaceAll("\\s+", " ").trim();
    }

    /** The lines of these promises that were not named. */
    List<String> leftOfPromises(int first, int last) {
        List<String> left = new ArrayList<>();
        for (int promise = first; promise <= last; promise++) {
            for (String line : linesOf(promise)) {
                String sentence = "Promise " + promise + ": " + line;
                if (!quoted.contains(sentence)) {
                    left.add(sentence);
                }
            }
        }
        return left;
    }

    private String description() {
        return section("## Description").stream()
                .map(String::trim)
                .takeWhile(line -> !line.startsWith("Examples:"))
                .collect(Collectors.joining(" "));
    }

    /** What a promise says behind its signature and its place among the others. */
    private List<String> linesOf(int promise) {
        return section("## Promise " + promise + ":").stream()
                .filter(line -> !line.isBlank() && !line.startsWith("`") && !line.startsWith("----"))
                .toList();
    }

    private List<String> section(String title) {
        return lines.stream()
                .dropWhile(line -> !line.startsWith(title))
                .skip(1)
                .takeWhile(line -> !line.startsWith("## "))
                .toList();
    }
}
