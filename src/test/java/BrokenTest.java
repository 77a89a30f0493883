import java.io.ByteArrayOutputStream;
import java.io.IOException;
import java.io.InputStream;
import java.io.OutputStream;
import java.lang.reflect.InvocationTargetException;
import java.lang.reflect.Method;
import java.net.URI;
import java.nio.file.Files;
import java.nio.file.Path;
import java.util.HashMap;
import java.util.List;
import java.util.Map;
import javax.tools.FileObject;
import javax.tools.ForwardingJavaFileManager;
import javax.tools.JavaCompiler;
import javax.tools.JavaFileManager;
import javax.tools.JavaFileObject;
import javax.tools.SimpleJavaFileObject;
import javax.tools.StandardJavaFileManager;
import javax.tools.ToolProvider;

/**
 * Breaks the class, one sentence of the document at a time, and looks whether the test of that sentence fails then.
 * Run in the project's root.
 */
public final class BrokenTest {
    private static final Checks CHECKS = new Checks();
    private static final JavaCompiler COMPILER = ToolProvider.getSystemJavaCompiler();

    public static void main(String[] args) throws IOException, ReflectiveOperationException {
        String source = plain(Files.readString(Path.of("src/main/java/StickRests.java")));
        List<Sentence> sentences = Book.sentences();
        try (StandardJavaFileManager files = COMPILER.getStandardFileManager(null, null, null)) {
            CHECKS.due("tests that hold in a class that is not broken", holding(compiled(source, files), sentences.size()), sentences.size());
            for (int number = 0; number < sentences.size(); number++) {
                Sentence sentence = sentences.get(number);
                CHECKS.about(sentence.name());
                CHECKS.due("is it broken once at least? It", Math.min(1, sentence.breaks.size()), 1);
                for (Sentence.Break broken : sentence.breaks) {
                    failsWhenBroken(number, broken, source, files);
                }
            }
        }
        CHECKS.end("BrokenTest");
    }

    /** The source without comments, and with each row of white space as one blank: so a break can be told in a line. */
    private static String plain(String source) {
        return source.replaceAll("(?s)/\\*.*?\\*/", " ").replaceAll("//[^\n]*", " ").replaceAll("\\s+", " ");
    }

    private static void failsWhenBroken(int number, Sentence.Break broken, String source, JavaFileManager files)
            throws ReflectiveOperationException {
        int start = source.indexOf(broken.from());
        if (start < 0 || source.indexOf(broken.from(), start + 1) >= 0) {
            CHECKS.fail("does not stand in the class just once: " + broken.from());
            return;
        }
        String brokenSource = source.substring(0, start) + broken.to() + source.substring(start + broken.from().length());
        Map<String, byte[]> classes = compiled(brokenSource, files);
        if (classes.isEmpty()) {
            CHECKS.fail("does not compile: " + broken.to());
            return;
        }
        CHECKS.due("does its test hold with \"" + broken.to() + "\" for \"" + broken.from() + "\"? It", holds(classes, number) ? 1 : 0, 0);
    }

    private static int holding(Map<String, byte[]> classes, int sentences) throws ReflectiveOperationException {
        int holding = 0;
        for (int number = 0; number < sentences; number++) {
            holding += holds(classes, number) ? 1 : 0;
        }
        return holding;
    }

    /** The tests are loaded once more, beside the broken class: so they cannot meet the one that is not broken. */
    private static boolean holds(Map<String, byte[]> classes, int number) throws ReflectiveOperationException {
        Method holds = new BrokenLoader(classes).loadClass("Book").getDeclaredMethod("holds", int.class);
        holds.setAccessible(true);
        try {
            return (boolean) holds.invoke(null, number);
        } catch (InvocationTargetException thrown) {
            CHECKS.fail("threw " + thrown.getCause());
            return false;
        }
    }

    /** The classes that the source makes, by name; none if it does not compile. */
    private static Map<String, byte[]> compiled(String source, JavaFileManager files) {
        Map<String, ByteArrayOutputStream> made = new HashMap<>();
        JavaFileObject file = new SimpleJavaFileObject(URI.create("string:///StickRests.java"), JavaFileObject.Kind.SOURCE) {
            @Override
            public CharSequence getCharContent(boolean ignoreErrors) {
                return source;
            }
        };
        JavaFileManager inMemory = new ForwardingJavaFileManager<>(files) {
            @Override
            public JavaFileObject getJavaFileForOutput(Location location, String name, JavaFileObject.Kind kind, FileObject sibling) {
                return new SimpleJavaFileObject(URI.create("bytes:///" + name), kind) {
                    @Override
                    public OutputStream openOutputStream() {
                        ByteArrayOutputStream bytes = new ByteArrayOutputStream();
                        made.put(name, bytes);
                        return bytes;
                    }
                };
            }
        };
        boolean compiles = COMPILER.getTask(null, inMemory, diagnostic -> { }, List.of("-proc:none", "-nowarn"), null, List.of(file)).call();
        Map<String, byte[]> classes = new HashMap<>();
        if (compiles) {
            made.forEach((name, bytes) -> classes.put(name, bytes.toByteArray()));
        }
        return classes;
    }

    private static final class BrokenLoader extends ClassLoader {
        private final Map<String, byte[]> classes;

        BrokenLoader(Map<String, byte[]> classes) {
            super(ClassLoader.getPlatformClassLoader());
            this.classes = classes;
        }

        @Override
        protected Class<?> findClass(String name) throws ClassNotFoundException {
            byte[] bytes = classes.containsKey(name) ? classes.get(name) : ofTests(name);
            return defineClass(name, bytes, 0, bytes.length);
        }

        private static byte[] ofTests(String name) throws ClassNotFoundException {
            try (InputStream file = ClassLoader.getSystemResourceAsStream(name + ".class")) {
                if (file == null) {
                    throw new ClassNotFoundException(name);
                }
                return file.readAllBytes();
            } catch (IOException unread) {
                throw new ClassNotFoundException(name, unread);
            }
        }
    }
}
