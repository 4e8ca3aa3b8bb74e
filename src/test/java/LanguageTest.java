import java.io.IOException;
import java.lang.reflect.Constructor;
import java.lang.reflect.Field;
import java.lang.reflect.Member;
import java.lang.reflect.Method;
import java.lang.reflect.Modifier;
import java.nio.file.Files;
import java.nio.file.Path;
import java.util.ArrayList;
import java.util.Arrays;
import java.util.List;
import java.util.TreeSet;
import java.util.regex.Matcher;
import java.util.regex.Pattern;

/** The document's face, and those rules of LANGUAGE.md that can be seen from outside or in the text. */
public final class LanguageTest {
    private static final Path SOURCE = Path.of("src/main/java/CrashVault.java");
    private static final Path DOCUMENT = Path.of("../shared/DOC.md");
    private static final String[] FACE = {
        "public boolean CrashVault.make(long,int,int,int) throws IllegalArgumentException",
        "public int CrashVault.open(long) throws NoSuchElementException",
        "public boolean CrashVault.shut()",
        "public boolean CrashVault.isOpen()",
        "public int CrashVault.length() throws IllegalStateException",
        "public boolean CrashVault.save(int) throws IllegalStateException,IllegalArgumentException",
        "public void CrashVault.renew(long,int) throws IllegalStateException,IllegalArgumentException",
        "public int CrashVault.serial() throws IllegalStateException",
        "public boolean CrashVault.put(long,long) throws IllegalStateException,IllegalArgumentException,"
            + "UnsupportedOperationException",
        "public boolean CrashVault.remove(long) throws IllegalStateException",
        "public int CrashVault.entries() throws IllegalStateException",
        "public long CrashVault.name(int) throws IllegalStateException,IndexOutOfBoundsException",
        "public long CrashVault.value(long,int) throws IllegalStateException,IndexOutOfBoundsException,"
            + "NoSuchElementException",
        "public int CrashVault.disk(int) throws IndexOutOfBoundsException",
        "public void CrashVault.spoil(int,int) throws IndexOutOfBoundsException",
        "public boolean CrashVault.isGood(int,long) throws IndexOutOfBoundsException",
    };

    private LanguageTest() {
    }

    public static void main(String[] args) throws IOException {
        face();
        if (Files.exists(DOCUMENT)) {
            documentedFace(Files.readString(DOCUMENT));
        } else {
            System.out.println("no document at " + DOCUMENT + ": its face is not looked at");
        }
        members();
        String source = Files.readString(SOURCE);
        words(source);
        methodLengths(source);
        Check.end();
    }

    private static void face() {
        TreeSet<String> methods = new TreeSet<>();
        for (Method method : CrashVault.class.getDeclaredMethods()) {
            if (Modifier.isPublic(method.getModifiers())) {
                methods.add(method.toGenericString().replace("java.lang.", "").replace("java.util.", ""));
            }
        }
        Check.due("the public methods", new TreeSet<>(Arrays.asList(FACE)), () -> methods);
        List<String> constructors = new ArrayList<>();
        for (Constructor<?> constructor : CrashVault.class.getDeclaredConstructors()) {
            constructors.add(constructor.toString());
        }
        Check.due("the constructors", "[public CrashVault()]", () -> constructors);
        Check.due("the class", "public final", () -> Modifier.toString(CrashVault.class.getModifiers()));
    }

    /** The document's own lines, written as FACE is: without the names of the parameters. */
    private static void documentedFace(String document) {
        String face = document.replaceFirst("(?s).*```java\n(.*?)```.*", "$1");
        TreeSet<String> methods = new TreeSet<>();
        Matcher line = Pattern.compile("(?m)^ +public (\\w+) (\\w+)\\((.*?)\\)(.*);$").matcher(face);
        while (line.find()) {
            String types = line.group(3).replaceAll(" \\w+(, )?", "$1").replace(", ", ",");
            methods.add("public " + line.group(1) + " CrashVault." + line.group(2) + "(" + types + ")"
                + line.group(4).replace(", ", ","));
        }
        Check.due("the methods that the document writes", new TreeSet<>(Arrays.asList(FACE)), () -> methods);
        Check.due("the lines of the document's face", FACE.length + 3L, () -> face.lines().count());
        Check.due("the document's class", true, () -> face.startsWith("public final class CrashVault {\n"));
        Check.due("the document's constructor", true, () -> face.contains(" public CrashVault();\n"));
    }

    private static void members() {
        TreeSet<String> faceNames = new TreeSet<>();
        for (String method : FACE) {
            faceNames.add(method.replaceAll(".*CrashVault\\.(\\w+)\\(.*", "$1"));
        }
        for (Method method : CrashVault.class.getDeclaredMethods()) {
            if (!Modifier.isPublic(method.getModifiers())) {
                duePrivate(method);
                Check.due("the name of " + method, false, () -> faceNames.contains(method.getName()));
            }
        }
        for (Field field : CrashVault.class.getDeclaredFields()) {
            duePrivate(field);
            dueFinalIfStatic(field);
        }
        for (Class<?> inside : CrashVault.class.getDeclaredClasses()) {
            Check.due(inside + " is static", true, () -> Modifier.isStatic(inside.getModifiers()));
            for (Field field : inside.getDeclaredFields()) {
                dueFinalIfStatic(field);
            }
            for (Method method : inside.getDeclaredMethods()) {
                Check.due("the name of " + method, false, () -> faceNames.contains(method.getName()));
                Check.due("parameters of " + method, true, () -> method.getParameterCount() <= 7);
            }
        }
        Check.due("at most twelve classes", true, () -> CrashVault.class.getDeclaredClasses().length < 12);
    }

    private static void duePrivate(Member member) {
        Check.due(member + " is private", true, () -> Modifier.isPrivate(member.getModifiers()));
    }

    private static void dueFinalIfStatic(Field field) {
        int modifiers = field.getModifiers();
        Check.due(field + " is no static state", true,
            () -> !Modifier.isStatic(modifiers) || Modifier.isFinal(modifiers));
    }

    private static void words(String source) {
        String code = source.replaceAll("(?s)/\\*.*?\\*/", "").replaceAll("//[^\n]*", "");
        String[] ruledOut = {"->", "::", "\\btry\\b", "\\bcatch\\b", "\\bfinally\\b", "\\bsynchronized\\b",
            "\\bassert\\b", "\\binstanceof\\b", "\\bpackage\\b", "\\bstatic \\{", "\\bdouble\\b", "\\bfloat\\b",
            "\\bhashCode\\b", "\\btoString\\b", "Exact\\b", "\\bSystem\\.(?!arraycopy)", "\\bextends\\b"};
        for (String word : ruledOut) {
            Check.due("the program has " + word, false, () -> Pattern.compile(word).matcher(code).find());
        }
        List<String> imports = new ArrayList<>();
        Matcher matcher = Pattern.compile("(?m)^import (.*);").matcher(code);
        while (matcher.find()) {
            imports.add(matcher.group(1));
        }
        Check.due("the imports", "[java.util.NoSuchElementException]", () -> imports);
    }

    /** A method ends at the first closing brace that stands as far to the left as the method. */
    private static void methodLengths(String source) {
        Matcher method = Pattern.compile("(?m)^( +)[\\w\\[\\] ]+\\([^;{]*\\)[^;{]*\\{\n(?s:.*?)\n\\1\\}").matcher(source);
        int methods = 0;
        while (method.find()) {
            methods++;
            String text = method.group();
            Check.due("at most sixty lines: " + text.lines().findFirst().orElse(""), true,
                () -> text.lines().count() <= 60);
        }
        int found = methods;
        Check.due("methods were found", true, () -> found > FACE.length);
    }
}
