import java.io.ByteArrayOutputStream;
import java.io.IOException;
import java.io.InputStream;
import java.io.OutputStream;
import java.lang.reflect.InvocationTargetException;
import java.lang.reflect.Method;
import java.net.URI;
import java.nio.file.Files;
import java.nio.file.Path;
import java.util.ArrayList;
import java.util.HashMap;
import java.util.List;
import java.util.Map;
import javax.tools.FileObject;
import javax.tools.ForwardingJavaFileManager;
import javax.tools.JavaCompiler;
import javax.tools.JavaFileManager;
import javax.tools.JavaFileObject;
import javax.tools.SimpleJavaFileObject;
import javax.tools.StandardJavaFileManager;
import javax.tools.ToolProvider;

/**
 * Breaks the class, one sentence of the document at a time, and looks whether the test of that sentence fails then.
 * The breaks are edits of the class as it is written now. One whose text does not stand in the class any more is told,
 * and then nothing here fails: a class that is written in another way is not wrong for that. Run in the project's root.
 */
public final class BrokenTest {
    private static final Checks CHECKS = new Checks();
    private static final JavaCompiler COMPILER = ToolProvider.getSystemJavaCompiler();

    private final String source;
    private final StandardJavaFileManager files;
    private final List<String> stale = new ArrayList<>();
    private final List<String> unnoticed = new ArrayList<>();

    private BrokenTest(String source, StandardJavaFileManager files) {
        this.source = source;
        this.files = files;
    }

    public static void main(String[] args) throws IOException, ReflectiveOperationException {
        String source = plain(Files.readString(Path.of("src/main/java/StickRests.java")));
        try (StandardJavaFileManager files = COMPILER.getStandardFileManager(null, null, null)) {
            BrokenTest test = new BrokenTest(source, files);
            test.breakAll(Book.sentences());
            test.tell();
        }
        CHECKS.end("BrokenTest");
    }

    /** The source without comments, and with each row of white space as one blank: so a break can be told in a line. */
    private static String plain(String source) {
        return source.replaceAll("(?s)/\\*.*?\\*/", " ").replaceAll("//[^\n]*", " ").replaceAll("\\s+", " ");
    }

    private void breakAll(List<Sentence> sentences) throws ReflectiveOperationException {
        CHECKS.due("tests that hold in the class", holding(compiled(source), sentences.size()), sentences.size());
        for (int number = 0; number < sentences.size(); number++) {
            Sentence sentence = sentences.get(number);
            CHECKS.due("breaks of " + sentence.name() + ", at least one: it", Math.min(1, sentence.breaks.size()), 1);
            for (Sentence.Break broken : sentence.breaks) {
                breakOne(number, sentence, broken);
            }
        }
    }

    private void breakOne(int number, Sentence sentence, Sentence.Break broken) throws ReflectiveOperationException {
        String name = sentence.name() + " with " + broken.to() + " for " + broken.from();
        int start = source.indexOf(broken.from());
        if (start < 0 || source.indexOf(broken.from(), start + 1) >= 0) {
            stale.add(name);
            return;
        }
        Map<String, byte[]> classes =
            compiled(source.substring(0, start) + broken.to() + source.substring(start + broken.from().length()));
        if (classes.isEmpty()) {
            unnoticed.add(name + ": does not compile");
        } else if (holds(classes, number)) {
            unnoticed.add(name + ": its test holds all the same");
        }
    }

    private void tell() {
        for (String name : stale) {
            System.out.println("does not stand in the class just once: " + name);
        }
        for (String name : unnoticed) {
            if (stale.isEmpty()) {
                CHECKS.fail(name);
            } else {
                System.out.println("told only, for the class has been changed: " + name);
            }
        }
        System.out.println("BrokenTest: " + stale.size() + " breaks are out of date, " + unnoticed.size() + " are not noticed");
    }

    private static int holding(Map<String, byte[]> classes, int sentences) throws ReflectiveOperationException {
        int holding = 0;
        for (int number = 0; number < sentences; number++) {
            holding += holds(classes, number) ? 1 : 0;
        }
        return holding;
    }

    /** The tests are loaded once more, beside the broken class: so they cannot meet the one that is not broken. */
    private static boolean holds(Map<String, byte[]> classes, int number) throws ReflectiveOperationException {
        Method holds = new BrokenLoader(classes).loadClass("Book").getDeclaredMethod("holds", int.class);
        holds.setAccessible(true);
        try {
            return (boolean) holds.invoke(null, number);
        } catch (InvocationTargetException thrown) {
            CHECKS.fail("threw " + thrown.getCause());
            return false;
        }
    }

    /** The classes that the source makes, by name; none if it does not compile. */
    private Map<String, byte[]> compiled(String text) {
        Map<String, ByteArrayOutputStream> made = new HashMap<>();
        JavaFileObject file = new SimpleJavaFileObject(URI.create("string:///StickRests.java"), JavaFileObject.Kind.SOURCE) {
            @Override
            public CharSequence getCharContent(boolean ignoreErrors) {
                return text;
            }
        };
        JavaFileManager inMemory = new ForwardingJavaFileManager<>(files) {
            @Override
            public JavaFileObject getJavaFileForOutput(Location location, String name, JavaFileObject.Kind kind,
                                                       FileObject sibling) {
                return new SimpleJavaFileObject(URI.create("bytes:///" + name), kind) {
                    @Override
                    public OutputStream openOutputStream() {
                        ByteArrayOutputStream bytes = new ByteArrayOutputStream();
                        made.put(name, bytes);
                        return bytes;
                    }
                };
            }
        };
        List<String> options = List.of("-proc:none", "-nowarn");
        boolean compiles = COMPILER.getTask(null, inMemory, diagnostic -> { }, options, null, List.of(file)).call();
        Map<String, byte[]> classes = new HashMap<>();
        if (compiles) {
            made.forEach((name, bytes) -> classes.put(name, bytes.toByteArray()));
        }
        return classes;
    }

    private static final class BrokenLoader extends ClassLoader {
        private final Map<String, byte[]> classes;

        BrokenLoader(Map<String, byte[]> classes) {
            super(ClassLoader.getPlatformClassLoader());
            this.classes = classes;
        }

        @Override
        protected Class<?> findClass(String name) throws ClassNotFoundException {
            byte[] bytes = classes.containsKey(name) ? classes.get(name) : ofTests(name);
            return defineClass(name, bytes, 0, bytes.length);
        }

        private static byte[] ofTests(String name) throws ClassNotFoundException {
            try (InputStream file = ClassLoader.getSystemResourceAsStream(name + ".class")) {
                if (file == null) {
                    throw new ClassNotFoundException(name);
                }
                return file.readAllBytes();
            } catch (IOException unread) {
                throw new ClassNotFoundException(name, unread);
            }
        }
    }
}
