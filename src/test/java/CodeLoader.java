import java.io.ByteArrayOutputStream;
import java.io.IOException;
import java.io.InputStream;
import java.io.OutputStream;
import java.net.URI;
import java.util.HashMap;
import java.util.List;
import java.util.Map;
import javax.tools.FileObject;
import javax.tools.ForwardingJavaFileManager;
import javax.tools.JavaCompiler;
import javax.tools.JavaFileManager;
import javax.tools.JavaFileObject;
import javax.tools.SimpleJavaFileObject;
import javax.tools.ToolProvider;

/** Compiles a changed program in memory, and loads the tests anew so that they use it. */
final class CodeLoader extends ClassLoader {
    private final Map<String, byte[]> program;

    CodeLoader(Map<String, byte[]> program) {
        super(ClassLoader.getPlatformClassLoader());
        this.program = program;
    }

    @Override
    protected Class<?> findClass(String name) throws ClassNotFoundException {
        byte[] bytes = program.containsKey(name) ? program.get(name) : testClass(name);
        return defineClass(name, bytes, 0, bytes.length);
    }

    private static byte[] testClass(String name) throws ClassNotFoundException {
        try (InputStream bytes = ClassLoader.getSystemResourceAsStream(name + ".class")) {
            if (bytes == null) {
                throw new ClassNotFoundException(name);
            }
            return bytes.readAllBytes();
        } catch (IOException e) {
            throw new ClassNotFoundException(name, e);
        }
    }

    /** The classes of the code by their names. */
    static Map<String, byte[]> compiled(String code) throws IOException {
        JavaCompiler compiler = ToolProvider.getSystemJavaCompiler();
        Map<String, byte[]> classes = new HashMap<>();
        try (JavaFileManager files = new MemoryFiles(compiler, classes)) {
            if (!compiler.getTask(null, files, null, null, null, List.of(new Source(code))).call()) {
                throw new IllegalArgumentException("this does not compile: " + code);
            }
        }
        return classes;
    }

    private static final class Source extends SimpleJavaFileObject {
        private final String code;

        Source(String code) {
            super(URI.create("memory:///CrashVault.java"), Kind.SOURCE);
            this.code = code;
        }

        @Override
        public CharSequence getCharContent(boolean ignoreEncodingErrors) {
            return code;
        }
    }

    private static final class MemoryFiles extends ForwardingJavaFileManager<JavaFileManager> {
        private final Map<String, byte[]> classes;

        MemoryFiles(JavaCompiler compiler, Map<String, byte[]> classes) {
            super(compiler.getStandardFileManager(null, null, null));
            this.classes = classes;
        }

        @Override
        public JavaFileObject getJavaFileForOutput(Location where, String name, JavaFileObject.Kind kind,
            FileObject of) {
            return new SimpleJavaFileObject(URI.create("memory:///" + name + kind.extension), kind) {
                @Override
                public OutputStream openOutputStream() {
                    return new ByteArrayOutputStream() {
                        @Override
                        public void close() {
                            classes.put(name, toByteArray());
                        }
                    };
                }
            };
        }
    }
}
