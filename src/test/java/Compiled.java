import java.io.ByteArrayOutputStream;
import java.io.OutputStream;
import java.net.URI;
import java.util.HashMap;
import java.util.List;
import java.util.Map;
import javax.tools.FileObject;
import javax.tools.ForwardingJavaFileManager;
import javax.tools.JavaCompiler;
import javax.tools.JavaFileObject;
import javax.tools.SimpleJavaFileObject;
import javax.tools.StandardJavaFileManager;
import javax.tools.ToolProvider;

/** A class made from a text, in place of one of that name that the tests may have themselves. */
final class Compiled extends ClassLoader {
    private final Map<String, ByteArrayOutputStream> made = new HashMap<>();

    /** Answers null, and prints why, if the text is no such class. */
    static Class<?> of(String name, String text) {
        Compiled loader = new Compiled();
        JavaCompiler compiler = ToolProvider.getSystemJavaCompiler();
        StandardJavaFileManager standard = compiler.getStandardFileManager(null, null, null);
        List<String> options = List.of("-cp", System.getProperty("java.class.path"));
        boolean good = compiler.getTask(null, loader.into(standard), null, options, null, List.of(source(name, text))).call();
        try {
            return good ? loader.loadClass(name) : null;
        } catch (ClassNotFoundException e) {
            System.out.println("there is no " + e.getMessage());
            return null;
        }
    }

    static JavaFileObject source(String name, String text) {
        return new SimpleJavaFileObject(URI.create("string:///" + name + ".java"), JavaFileObject.Kind.SOURCE) {
            @Override
            public CharSequence getCharContent(boolean ignoreErrors) {
                return text;
            }
        };
    }

    private ForwardingJavaFileManager<StandardJavaFileManager> into(StandardJavaFileManager standard) {
        return new ForwardingJavaFileManager<>(standard) {
            @Override
            public JavaFileObject getJavaFileForOutput(Location at, String name, JavaFileObject.Kind kind, FileObject near) {
                return new SimpleJavaFileObject(URI.create("memory:///" + name + ".class"), kind) {
                    @Override
                    public OutputStream openOutputStream() {
                        return made.computeIfAbsent(name, k -> new ByteArrayOutputStream());
                    }
                };
            }
        };
    }

    @Override
    protected Class<?> loadClass(String name, boolean resolve) throws ClassNotFoundException {
        Class<?> before = findLoadedClass(name);
        if (before != null || !made.containsKey(name)) {
            return before != null ? before : super.loadClass(name, resolve);
        }
        byte[] bytes = made.get(name).toByteArray();
        return defineClass(name, bytes, 0, bytes.length);
    }
}
