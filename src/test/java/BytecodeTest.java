import java.io.PrintWriter;
import java.io.StringWriter;
import java.util.ArrayList;
import java.util.List;
import java.util.Map;
import java.util.Set;
import java.util.TreeMap;
import java.util.TreeSet;
import java.util.regex.Matcher;
import java.util.regex.Pattern;
import java.util.spi.ToolProvider;

/** Rules of LANGUAGE.md that the compiled program tells for sure: what it calls, how deep, and what it makes. */
public final class BytecodeTest {
    private static final int DEEPEST = 8;
    private static final Pattern CLASS = Pattern.compile(".*\\bclass (CrashVault[$\\w]*) .*\\{");
    private static final Pattern METHOD = Pattern.compile("  [^ ].*?([$\\w]+)\\(.*\\).*;");
    private static final Pattern CALL = Pattern.compile(" +\\d+: invoke.* // (?:Interface)?Method ([^:]+):.*");
    private static final Pattern MADE = Pattern.compile(" +\\d+: (?:multia|a)?new(?:array)? .*");
    private static final Pattern EXCEPTION_MADE = Pattern.compile(".*: new .* class java/(?:lang|util)/\\w+Exception");
    private static final Set<String> LIBRARY = Set.of("java/lang/System.arraycopy", "java/lang/Math.min",
        "java/lang/Object.<init>", "java/lang/IllegalStateException.<init>",
        "java/lang/IllegalArgumentException.<init>", "java/lang/IndexOutOfBoundsException.<init>",
        "java/lang/UnsupportedOperationException.<init>", "java/util/NoSuchElementException.<init>");

    // Of each method, as Class.name, the methods that it calls.
    private final Map<String, Set<String>> calls = new TreeMap<>();
    private final Set<String> makers = new TreeSet<>();

    private BytecodeTest() {
    }

    public static void main(String[] args) {
        BytecodeTest test = new BytecodeTest();
        test.readAll(disassembled());
        test.libraryAlone();
        test.depths();
        Check.due("methods beside constructors that make more than an exception", "[]", () -> test.makers);
        Check.end();
    }

    private static String disassembled() {
        List<String> arguments = new ArrayList<>(List.of("-c", "-p", "-cp", System.getProperty("java.class.path")));
        arguments.add("CrashVault");
        for (Class<?> inside : CrashVault.class.getDeclaredClasses()) {
            arguments.add(inside.getName());
        }
        StringWriter text = new StringWriter();
        PrintWriter out = new PrintWriter(text);
        ToolProvider.findFirst("javap").orElseThrow().run(out, out, arguments.toArray(new String[0]));
        return text.toString();
    }

    private void readAll(String text) {
        String inClass = "";
        String inMethod = "";
        for (String line : text.split("\n")) {
            Matcher head = CLASS.matcher(line);
            Matcher method = METHOD.matcher(line);
            if (head.matches()) {
                inClass = head.group(1);
            } else if (method.matches()) {
                String name = method.group(1).equals(inClass) ? "<init>" : method.group(1);
                inMethod = inClass + "." + name;
                boolean isNew = calls.put(inMethod, new TreeSet<>()) == null;
                Check.due(inMethod + " has a name of its own in its class", true, () -> isNew);
            } else {
                readCode(line, inClass, inMethod);
            }
        }
        Check.due("methods were found", true, () -> calls.containsKey("CrashVault.isGood"));
    }

    private void readCode(String line, String inClass, String inMethod) {
        Matcher call = CALL.matcher(line);
        if (call.matches()) {
            String called = call.group(1).replace("\"", "");
            calls.get(inMethod).add(called.contains(".") ? called : inClass + "." + called);
        }
        if (MADE.matcher(line).matches() && !EXCEPTION_MADE.matcher(line).matches() && !inMethod.endsWith(".<init>")) {
            makers.add(inMethod);
        }
    }

    private void libraryAlone() {
        for (Map.Entry<String, Set<String>> method : calls.entrySet()) {
            for (String called : method.getValue()) {
                Check.due(method.getKey() + " may call " + called, true,
                    () -> calls.containsKey(called) || LIBRARY.contains(called));
            }
        }
    }

    private void depths() {
        for (String method : calls.keySet()) {
            Check.due("calls go at most eight deep, " + method, true, () -> depth(method, 1) <= DEEPEST);
        }
    }

    /** A method that calls itself is deeper than any bound, so that one beyond it is enough to tell. */
    private int depth(String method, int at) {
        int deepest = at;
        if (at <= DEEPEST) {
            for (String called : calls.getOrDefault(method, Set.of())) {
                deepest = Math.max(deepest, depth(called, at + 1));
            }
        }
        return deepest;
    }
}
