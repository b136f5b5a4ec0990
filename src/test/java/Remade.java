import java.io.ByteArrayOutputStream;
import java.io.IOException;
import java.io.OutputStream;
import java.net.URI;
import java.util.HashMap;
import java.util.List;
import java.util.Map;
import javax.tools.FileObject;
import javax.tools.ForwardingJavaFileManager;
import javax.tools.JavaCompiler;
import javax.tools.JavaFileManager;
import javax.tools.JavaFileObject;
import javax.tools.SimpleJavaFileObject;
import javax.tools.ToolProvider;

/** The class made anew from a text, in memory, beside the one that is tested. */
final class Remade {

    private Remade() {
    }

    /** The answer of the named method for these numbers. */
    static Object call(Object x, String name, int... numbers) {
        Class<?>[] types = new Class<?>[numbers.length];
        Object[] given = new Object[numbers.length];
        for (int i = 0; i < numbers.length; i++) {
            types[i] = int.class;
            given[i] = numbers[i];
        }
        try {
            return x.getClass().getMethod(name, types).invoke(x, given);
        } catch (ReflectiveOperationException e) {
            throw new IllegalStateException(name, e);
        }
    }

    /** A new object of the class in this source. */
    static Object made(String source) throws IOException {
        Map<String, ByteArrayOutputStream> classes = new HashMap<>();
        JavaCompiler compiler = ToolProvider.getSystemJavaCompiler();
        try (JavaFileManager inMemory = inMemory(compiler, classes)) {
            boolean compiled = compiler.getTask(null, inMemory, null, List.of("-proc:none"), null, List.of(text(source))).call();
            Due.is("the program compiles", compiled, true);
        }
        ClassLoader loader = new ClassLoader(null) {
            @Override
            protected Class<?> findClass(String name) throws ClassNotFoundException {
                if (!classes.containsKey(name)) {
                    throw new ClassNotFoundException(name);
                }
                byte[] bytes = classes.get(name).toByteArray();
                return defineClass(name, bytes, 0, bytes.length);
            }
        };
        try {
            return loader.loadClass("Checkdesk").getConstructor().newInstance();
        } catch (ReflectiveOperationException e) {
            throw new IllegalStateException(e);
        }
    }

    private static JavaFileObject text(String source) {
        return new SimpleJavaFileObject(URI.create("string:///Checkdesk.java"), JavaFileObject.Kind.SOURCE) {
            @Override
            public CharSequence getCharContent(boolean ignoreEncodingErrors) {
                return source;
            }
        };
    }

    private static JavaFileManager inMemory(JavaCompiler compiler, Map<String, ByteArrayOutputStream> classes) {
        return new ForwardingJavaFileManager<JavaFileManager>(compiler.getStandardFileManager(null, null, null)) {
            @Override
            public JavaFileObject getJavaFileForOutput(Location location, String name, JavaFileObject.Kind kind, FileObject sibling) {
                return new SimpleJavaFileObject(URI.create("memory:///" + name + ".class"), kind) {
                    @Override
                    public OutputStream openOutputStream() {
                        ByteArrayOutputStream bytes = new ByteArrayOutputStream();
                        classes.put(name, bytes);
                        return bytes;
                    }
                };
            }
        };
    }
}
