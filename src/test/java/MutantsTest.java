import java.io.IOException;
import java.io.OutputStream;
import java.io.PrintStream;
import java.lang.reflect.Method;
import java.nio.file.Files;
import java.nio.file.Path;
import java.util.Map;
import java.util.TreeSet;

/** Breaks the program against a sentence, and looks whether the sentence's own test fails then. */
public final class MutantsTest {
    private static final Path SOURCE = Path.of("src/main/java/CrashVault.java");

    private MutantsTest() {
    }

    public static void main(String[] args) throws IOException, ReflectiveOperationException {
        String code = Files.readString(SOURCE).replaceAll("(?s)/\\*.*?\\*/", "").replaceAll("//[^\n]*", "")
            .replaceAll("\\s+", " ");
        TreeSet<String> unbroken = new TreeSet<>();
        Map<String, byte[]> right = CodeLoader.compiled(code);
        for (Sentence sentence : Sentences.all()) {
            unbroken.add(sentence.name());
            int wrong = wrongOf(sentence.name(), right);
            Check.due("the program as it is, " + sentence.name(), 0, () -> wrong);
        }
        for (Mutants.Mutant mutant : Mutants.all()) {
            dueFound(mutant, code);
            unbroken.remove(mutant.sentence());
        }
        Check.due("sentences that nothing breaks", "[]", () -> unbroken);
        Check.end();
    }

    private static void dueFound(Mutants.Mutant mutant, String code) throws IOException, ReflectiveOperationException {
        Check.about(mutant.sentence() + ": " + mutant.from() + " -> " + mutant.to());
        int at = code.indexOf(mutant.from());
        boolean once = at >= 0 && code.indexOf(mutant.from(), at + 1) < 0;
        Check.due("stands once in the program", true, () -> once);
        if (once) {
            Map<String, byte[]> broken = CodeLoader.compiled(code.replace(mutant.from(), mutant.to()));
            int wrong = wrongOf(mutant.sentence(), broken);
            Check.due("is found", true, () -> wrong > 0);
        }
    }

    /** How many answers of the sentence's test are not as due, with these classes as the program. */
    private static int wrongOf(String sentence, Map<String, byte[]> program) throws ReflectiveOperationException {
        Class<?> sentences = new CodeLoader(program).loadClass("Sentences");
        Method wrongOf = sentences.getDeclaredMethod("wrongOf", String.class);
        wrongOf.setAccessible(true);
        PrintStream out = System.out;
        // What a broken program answers is of no use to the reader.
        System.setOut(new PrintStream(OutputStream.nullOutputStream()));
        try {
            return (int) wrongOf.invoke(null, sentence);
        } finally {
            System.setOut(out);
        }
    }
}
