import java.io.ByteArrayOutputStream;
import java.io.IOException;
import java.io.InputStream;
import java.io.OutputStream;
import java.net.URI;
import java.util.HashMap;
import java.util.List;
import java.util.Map;
import javax.tools.FileObject;
import javax.tools.ForwardingJavaFileManager;
import javax.tools.JavaCompiler;
import javax.tools.JavaFileManager;
import javax.tools.JavaFileObject;
import javax.tools.SimpleJavaFileObject;
import javax.tools.StandardJavaFileManager;
import javax.tools.ToolProvider;

/** Loads classes that were compiled in memory, and the project's own ones once more beside them. */
final class Aside extends ClassLoader {
    private static final JavaCompiler COMPILER = ToolProvider.getSystemJavaCompiler();
    private static final StandardJavaFileManager FILES = COMPILER.getStandardFileManager(null, null, null);

    private final Map<String, byte[]> classes;

    Aside(Map<String, byte[]> classes) {
        super(Aside.class.getClassLoader());
        this.classes = classes;
    }

    /** The classes that come of a source file of this name. */
    static Map<String, byte[]> compile(String file, String code) {
        Map<String, byte[]> classes = new HashMap<>();
        URI place = URI.create("string:///" + file + ".java");
        JavaFileObject unit = new SimpleJavaFileObject(place, JavaFileObject.Kind.SOURCE) {
            @Override
            public CharSequence getCharContent(boolean ignoreErrors) {
                return code;
            }
        };
        StringBuilder told = new StringBuilder();
        boolean done = COMPILER.getTask(null, new InMemory(classes), told::append, null, null, List.of(unit)).call();
        if (!done) {
            throw new IllegalStateException("does not compile: " + told);
        }
        return classes;
    }

    @Override
    protected Class<?> loadClass(String name, boolean resolve) throws ClassNotFoundException {
        synchronized (getClassLoadingLock(name)) {
            if (name.contains(".")) {
                return super.loadClass(name, resolve);
            }
            Class<?> loaded = findLoadedClass(name);
            return loaded != null ? loaded : define(name);
        }
    }

    private Class<?> define(String name) throws ClassNotFoundException {
        byte[] bytes = classes.get(name);
        if (bytes == null) {
            try (InputStream in = getParent().getResourceAsStream(name + ".class")) {
                if (in == null) {
                    throw new ClassNotFoundException(name);
                }
                bytes = in.readAllBytes();
            } catch (IOException e) {
                throw new ClassNotFoundException(name, e);
            }
        }
        return defineClass(name, bytes, 0, bytes.length);
    }

    /** Takes what is compiled into a map. */
    private static final class InMemory extends ForwardingJavaFileManager<StandardJavaFileManager> {
        private final Map<String, byte[]> classes;

        private InMemory(Map<String, byte[]> classes) {
            super(FILES);
            this.classes = classes;
        }

        @Override
        public JavaFileObject getJavaFileForOutput(JavaFileManager.Location location, String name,
                JavaFileObject.Kind kind, FileObject sibling) {
            return new SimpleJavaFileObject(URI.create("mem:///" + name), kind) {
                @Override
                public OutputStream openOutputStream() {
                    return new ByteArrayOutputStream() {
                        @Override
                        public void close() {
                            classes.put(name, toByteArray());
                        }
                    };
                }
            };
        }
    }
}
