import java.io.ByteArrayOutputStream;
import java.io.OutputStream;
import java.io.PrintWriter;
import java.io.StringWriter;
import java.lang.reflect.Field;
import java.lang.reflect.InvocationTargetException;
import java.lang.reflect.Method;
import java.net.URI;
import java.util.HashMap;
import java.util.List;
import java.util.Map;
import javax.tools.Diagnostic;
import javax.tools.DiagnosticCollector;
import javax.tools.FileObject;
import javax.tools.ForwardingJavaFileManager;
import javax.tools.JavaCompiler;
import javax.tools.JavaFileManager;
import javax.tools.JavaFileObject;
import javax.tools.SimpleJavaFileObject;
import javax.tools.StandardJavaFileManager;
import javax.tools.ToolProvider;

/** The compiler and the machine of this JDK, as a second opinion on a text: it is compiled and run in memory. */
final class Javac {
    private static final JavaCompiler COMPILER = ToolProvider.getSystemJavaCompiler();
    private static final StandardJavaFileManager FILES = there() ? COMPILER.getStandardFileManager(null, null, null) : null;
    // what the document has built in and java.lang hasn't
    private static final String BUILT_IN = "final class In { static int next() { return 0; } private In() { } }"
        + " final class Out { static final StringBuilder TEXT = new StringBuilder(); private Out() { }"
        + " private static void put(int kind, Object what) { TEXT.append(' ').append(kind).append(':').append(what); }"
        + " static void put(boolean x) { put(0, x ? 1 : 0); } static void put(int x) { put(1, x); }"
        + " static void put(long x) { put(2, x); } static void put(char x) { put(3, (int) x); }"
        + " static void put(Object x) { put(4, x == null ? \"null\" : x.getClass().getSimpleName()); } }";

    private final Map<String, byte[]> classes = new HashMap<>();
    private final boolean accepted;
    private final String firstError;

    /** Whether the machine that runs the tests has its compiler with it; without one there is no second opinion. */
    static boolean there() {
        return COMPILER != null;
    }

    Javac(String text) {
        DiagnosticCollector<JavaFileObject> told = new DiagnosticCollector<>();
        List<JavaFileObject> sources = List.of(source("Text", text), source("BuiltIn", BUILT_IN));
        accepted = COMPILER.getTask(new PrintWriter(new StringWriter()), new Kept(), told, List.of("-proc:none"), null, sources).call();
        String first = "";
        for (Diagnostic<? extends JavaFileObject> d : told.getDiagnostics()) {
            if (d.getKind() == Diagnostic.Kind.ERROR && first.isEmpty()) {
                first = d.getCode().replace("compiler.err.", "");
            }
        }
        firstError = first;
    }

    boolean accepted() {
        return accepted;
    }

    /** The code of the first error, empty if there is none. */
    String firstError() {
        return firstError;
    }

    /** How a run of Main's main() ended (0, or what was thrown), and what it put out. */
    String run() {
        ClassLoader loader = new Loader();
        try {
            String end = "0";
            Method main = loader.loadClass("Main").getDeclaredMethod("main");
            main.setAccessible(true);
            try {
                main.invoke(null);
            } catch (InvocationTargetException e) {
                end = e.getCause().getClass().getSimpleName();
            } catch (ExceptionInInitializerError e) {
                end = "ExceptionInInitializerError";
            }
            Field text = loader.loadClass("Out").getDeclaredField("TEXT");
            text.setAccessible(true);
            return end + text.get(null);
        } catch (ReflectiveOperationException e) {
            return e.toString();
        }
    }

    private static JavaFileObject source(String name, String text) {
        return new SimpleJavaFileObject(URI.create("string:///" + name + ".java"), JavaFileObject.Kind.SOURCE) {
            @Override
            public CharSequence getCharContent(boolean ignored) {
                return text;
            }
        };
    }

    /** Keeps the classes that are written. */
    private final class Kept extends ForwardingJavaFileManager<JavaFileManager> {
        Kept() {
            super(FILES);
        }

        @Override
        public JavaFileObject getJavaFileForOutput(Location where, String name, JavaFileObject.Kind kind, FileObject from) {
            return new SimpleJavaFileObject(URI.create("mem:///" + name + ".class"), kind) {
                @Override
                public OutputStream openOutputStream() {
                    return new ByteArrayOutputStream() {
                        @Override
                        public void close() {
                            classes.put(name, toByteArray());
                        }
                    };
                }
            };
        }
    }

    /** Takes what was compiled ahead of what stands on the class path. */
    private final class Loader extends ClassLoader {
        @Override
        protected Class<?> loadClass(String name, boolean resolve) throws ClassNotFoundException {
            byte[] code = classes.get(name);
            Class<?> there = findLoadedClass(name);
            if (there != null || code == null) {
                return there != null ? there : super.loadClass(name, resolve);
            }
            return defineClass(name, code, 0, code.length);
        }
    }
}
