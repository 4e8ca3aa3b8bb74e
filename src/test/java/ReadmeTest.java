import java.io.IOException;
import java.lang.reflect.Method;
import java.lang.reflect.Modifier;
import java.nio.file.Files;
import java.nio.file.Path;
import java.util.ArrayList;
import java.util.List;
import java.util.regex.Matcher;
import java.util.regex.Pattern;

/** README.md tells how the class is used: its calls answer what is written beside them, and none is missing. */
public final class ReadmeTest {
    private static final Path README = Path.of("README.md");
    private static final Pattern EXAMPLE = Pattern.compile("(?s)```java\n(.*?)```");
    /** An answer is the first word behind a call; other words there are no answer. */
    private static final Pattern ANSWERED =
        Pattern.compile("(v\\..*\\)); +// (-?\\d+|true|false|throws \\w+)(?:[,:].*)?");

    private ReadmeTest() {
    }

    public static void main(String[] args) throws IOException, ReflectiveOperationException {
        String readme = Files.readString(README);
        Matcher example = EXAMPLE.matcher(readme);
        Check.due("README.md has an example", true, example::find);
        answers(example.group(1));
        for (Method method : CrashVault.class.getDeclaredMethods()) {
            if (Modifier.isPublic(method.getModifiers())) {
                dueShown(method.getName(), readme, example.group(1));
            }
        }
        Check.end();
    }

    private static void dueShown(String name, String readme, String example) {
        Check.due("README.md has a row for " + name, true, () -> readme.contains("\n| `" + name + "("));
        Check.due("the example calls " + name, true, () -> example.contains("v." + name + "("));
    }

    /** The example, run as it stands, with the answer of each call kept. */
    private static void answers(String example) throws IOException, ReflectiveOperationException {
        List<String> calls = new ArrayList<>();
        List<String> due = new ArrayList<>();
        StringBuilder code = new StringBuilder("final class Example { static String[] run() { "
            + "java.util.List<String> answers = new java.util.ArrayList<>(); ");
        for (String line : example.split("\n")) {
            Matcher answered = ANSWERED.matcher(line);
            if (answered.matches()) {
                calls.add(answered.group(1));
                due.add(answered.group(2).replace(' ', '.'));
                code.append("answers.add(Check.answer(() -> ").append(answered.group(1)).append("));\n");
            } else {
                code.append(line).append('\n');
            }
        }
        code.append("return answers.toArray(new String[0]); } }");
        Method run = new CodeLoader(CodeLoader.compiled(code.toString())).loadClass("Example").getDeclaredMethod("run");
        run.setAccessible(true);
        String[] answers = (String[]) run.invoke(null);
        for (int i = 0; i < answers.length; i++) {
            int at = i;
            Check.due("README.md: " + calls.get(i), due.get(i), () -> answers[at]);
        }
        Check.due("answers that README.md tells", true, () -> answers.length > 10);
    }
}
