import java.io.IOException;
import java.nio.file.Files;
import java.nio.file.Path;
import java.util.HashSet;
import java.util.List;
import java.util.Set;
import java.util.regex.Matcher;
import java.util.regex.Pattern;

/** Each sentence of the document by a test of its own; and none of them is left out. */
public final class SentencesTest {
    private static final Path DOCUMENT = Path.of("../shared/DOC.md");

    private SentencesTest() {
    }

    public static void main(String[] args) throws IOException {
        List<Sentence> sentences = Sentences.all();
        Set<String> names = new HashSet<>();
        for (Sentence sentence : sentences) {
            Check.due(sentence.name() + " has a name of its own", true, () -> names.add(sentence.name()));
            Sentences.wrongOf(sentence.name());
        }
        if (Files.exists(DOCUMENT)) {
            hold(Files.readString(DOCUMENT), sentences);
        } else {
            System.out.println("no document at " + DOCUMENT + ": its words are not looked at");
        }
        Check.end();
    }

    private static void hold(String document, List<Sentence> sentences) {
        Check.about("the document");
        for (Sentence sentence : sentences) {
            Check.due("has the words of " + sentence.name(), true,
                () -> oneLine(document).contains(sentence.words()));
        }
        Check.due("parts", 19, () -> partsHeldAgainst(document, sentences));
    }

    private static String oneLine(String text) {
        return text.replaceAll("\\s+", " ");
    }

    /** What it is, the terms and each promise, held against the sentences: how many parts there are. */
    private static int partsHeldAgainst(String document, List<Sentence> sentences) {
        Matcher heading = Pattern.compile("(?m)^## (What it is|Terms|Promise \\d+).*\n((?:(?!^## ).*\n)*)").matcher(document);
        int parts = 0;
        while (heading.find()) {
            parts++;
            String part = heading.group(1).toLowerCase();
            String text = oneLine(heading.group(2)).replaceFirst("^ `[^`]*`: ", "");
            // A point behind a point is no end of a sentence: 1 .. 40.
            for (String clause : text.split("(?<!\\.)[.;:](?= |$)")) {
                dueTested(part, clause.strip(), sentences);
            }
        }
        return parts;
    }

    private static void dueTested(String part, String clause, List<Sentence> sentences) {
        Check.due("is tested in " + part + ": " + clause, true, () -> sentences.stream()
            .anyMatch(sentence -> sentence.part().equals(part) && sentence.words().contains(clause)));
    }
}
