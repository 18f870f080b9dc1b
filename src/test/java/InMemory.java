import java.io.ByteArrayOutputStream;
import java.io.IOException;
import java.io.InputStream;
import java.io.OutputStream;
import java.io.Writer;
import java.net.URI;
import java.util.HashMap;
import java.util.List;
import java.util.Map;
import javax.tools.FileObject;
import javax.tools.ForwardingJavaFileManager;
import javax.tools.JavaCompiler;
import javax.tools.JavaFileManager;
import javax.tools.JavaFileObject;
import javax.tools.SimpleJavaFileObject;
import javax.tools.ToolProvider;

/** Compiles a source, and loads what comes of it, without a file. */
final class InMemory {
    private InMemory() {
    }

    /** The classes of a source, by their names; none if it does not compile. */
    static Map<String, byte[]> compiled(String name, String source) {
        JavaCompiler compiler = ToolProvider.getSystemJavaCompiler();
        Outputs outputs = new Outputs(compiler.getStandardFileManager(null, null, null));
        List<String> options = List.of("-nowarn", "-classpath", System.getProperty("java.class.path"));
        boolean isRight = compiler.getTask(Writer.nullWriter(), outputs, problem -> { }, options, null,
            List.of(new Input(name, source))).call();
        Map<String, byte[]> classes = new HashMap<>();
        if (isRight) {
            outputs.written.forEach((written, bytes) -> classes.put(written, bytes.toByteArray()));
        }
        return classes;
    }

    private static final class Input extends SimpleJavaFileObject {
        private final String source;

        Input(String name, String source) {
            super(URI.create("string:///" + name + ".java"), JavaFileObject.Kind.SOURCE);
            this.source = source;
        }

        @Override
        public CharSequence getCharContent(boolean ignoresErrors) {
            return source;
        }
    }

    private static final class Outputs extends ForwardingJavaFileManager<JavaFileManager> {
        final Map<String, ByteArrayOutputStream> written = new HashMap<>();

        Outputs(JavaFileManager files) {
            super(files);
        }

        @Override
        public JavaFileObject getJavaFileForOutput(Location location, String name, JavaFileObject.Kind kind, FileObject sibling) {
            ByteArrayOutputStream bytes = new ByteArrayOutputStream();
            written.put(name, bytes);
            return new SimpleJavaFileObject(URI.create("bytes:///" + name + ".class"), kind) {
                @Override
                public OutputStream openOutputStream() {
                    return bytes;
                }
            };
        }
    }

    /** Loads classes from memory, and all others of the project anew, so that they use those. */
    static final class Classes extends ClassLoader {
        private final Map<String, byte[]> given;

        Classes(Map<String, byte[]> given) {
            super(ClassLoader.getPlatformClassLoader());
            this.given = given;
        }

        @Override
        protected Class<?> findClass(String name) throws ClassNotFoundException {
            byte[] bytes = given.containsKey(name) ? given.get(name) : fromFile(name);
            return defineClass(name, bytes, 0, bytes.length);
        }

        private static byte[] fromFile(String name) throws ClassNotFoundException {
            try (InputStream in = InMemory.class.getResourceAsStream(name + ".class")) {
                if (in != null) {
                    return in.readAllBytes();
                }
            } catch (IOException e) {
                throw new ClassNotFoundException(name, e);
            }
            throw new ClassNotFoundException(name);
        }
    }
}
