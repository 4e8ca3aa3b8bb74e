import java.util.ArrayList;
import java.util.List;

/** All sentences of the document that have a test of their own. */
final class Sentences {
    private Sentences() {
    }

    static List<Sentence> all() {
        List<Sentence> all = new ArrayList<>();
        all.addAll(CrashSentences.all());
        all.addAll(FileSentences.all());
        all.addAll(GoodSentences.all());
        all.addAll(SaveSentences.all());
        all.addAll(VaultSentences.all());
        all.addAll(EntrySentences.all());
        all.addAll(DiskSentences.all());
        return all;
    }

    /** How many answers of the test of the sentence with this name are not as due. */
    static int wrongOf(String name) {
        int before = Check.wrong();
        for (Sentence sentence : all()) {
            if (sentence.name().equals(name)) {
                Check.about(name);
                Check.due("the test ends", "nothing", () -> ended(sentence));
                return Check.wrong() - before;
            }
        }
        throw new IllegalArgumentException("no sentence has the name " + name);
    }

    /** A test that a call throws out of is not as due, too. */
    private static String ended(Sentence sentence) {
        sentence.test().run();
        return "nothing";
    }
}
