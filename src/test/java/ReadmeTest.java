import java.io.IOException;
import java.lang.reflect.Method;
import java.lang.reflect.Modifier;
import java.net.URL;
import java.net.URLClassLoader;
import java.nio.file.Files;
import java.nio.file.Path;
import java.util.ArrayList;
import java.util.List;
import java.util.function.BiConsumer;
import java.util.regex.Matcher;
import java.util.regex.Pattern;
import java.util.stream.Stream;
import javax.tools.JavaCompiler;
import javax.tools.StandardJavaFileManager;
import javax.tools.ToolProvider;

/** What README.md says of the class's use and of the tests holds as it is written there; run in the project's root. */
public final class ReadmeTest {
    private static final Checks CHECKS = new Checks();
    private static final Path TESTS = Path.of("src/test/java");

    /** A call, and behind it the number that it returns. */
    private static final Pattern EXAMPLE = Pattern.compile("(stick\\..*);\\s*// (-?\\d+)(, ([A-Z_]+))?(:.*)?");
    private static final Pattern SETTING =
        Pattern.compile("(?m)^\\| `([A-Z]+)` *\\| (\\d+) *\\| (\\d+) *\\| (\\d+) *\\| (\\d+) *\\| (.*) \\|$");
    private static final Pattern CODE =
        Pattern.compile("(?m)^\\| `([A-Z_]+)` *\\| (-\\d+) *\\| (?:`stick\\.(.*)`)?.*\\|$");
    private static final String ALL_TESTS = ".ci/run";

    public static void main(String[] args) throws IOException, ReflectiveOperationException, InterruptedException {
        String readme = Files.readString(Path.of("README.md"));
        String document = Files.readString(Path.of("../shared/DOC.md"));
        examples(readme);
        settings(readme, document);
        codes(readme);
        commands(readme);
        tests(readme);
        CHECKS.end("ReadmeTest");
    }

    private static List<String> blocks(String readme, String kind) {
        List<String> blocks = new ArrayList<>();
        Matcher block = Pattern.compile("(?ms)^```" + kind + "\n(.*?)^```$").matcher(readme);
        while (block.find()) {
            blocks.add(block.group(1));
        }
        return blocks;
    }

    // ---- examples

    private static void examples(String readme) throws IOException, ReflectiveOperationException {
        StringBuilder members = new StringBuilder();
        StringBuilder calls = new StringBuilder();
        for (String block : blocks(readme, "java")) {
            if (block.startsWith("static ")) {
                members.append(block);
            } else {
                block.lines().forEach(line -> calls.append(checked(line)).append('\n'));
            }
        }
        Path directory = Files.createTempDirectory("readme");
        runExamples(directory, members.toString(), calls.toString());
        deleteAll(directory);
        for (Method method : StickRests.class.getDeclaredMethods()) {
            if (Modifier.isPublic(method.getModifiers())) {
                String call = "stick." + method.getName() + "(";
                CHECKS.due("an example of " + call + "): found", calls.indexOf(call) >= 0 ? 1 : 0, 1);
            }
        }
    }

    /** An example as a statement that checks it; the line that makes the stick stays as it is. */
    private static String checked(String line) {
        Matcher example = EXAMPLE.matcher(line);
        if (!example.matches()) {
            CHECKS.dueText("a line that is no example", line, "StickRests stick = new StickRests();");
            return line;
        }
        String named = example.group(4) == null ? "" : due("the number of " + example.group(4),
            "StickRests." + example.group(4), example.group(2));
        return due(example.group(1), example.group(1), example.group(2)) + named;
    }

    private static String due(String name, String value, String want) {
        return "checks.accept(\"" + name.replace("\"", "\\\"") + "\", new long[] {" + value + ", " + want + "});";
    }

    private static void runExamples(Path directory, String members, String calls)
            throws IOException, ReflectiveOperationException {
        Path file = directory.resolve("ReadmeExamples.java");
        Files.writeString(file, "import java.util.function.BiConsumer;\n"
            + "public final class ReadmeExamples {\n" + members + "public static void run(BiConsumer<String, long[]> checks) {\n" + calls + "}\n}\n");
        JavaCompiler compiler = ToolProvider.getSystemJavaCompiler();
        boolean compiles;
        try (StandardJavaFileManager files = compiler.getStandardFileManager(null, null, null)) {
            List<String> options =
                List.of("-proc:none", "-d", directory.toString(), "-cp", System.getProperty("java.class.path"));
            compiles = compiler.getTask(null, files, null, options, null, files.getJavaFileObjects(file)).call();
        }
        CHECKS.due("the examples compile", compiles ? 1 : 0, 1);
        if (compiles) {
            try (URLClassLoader loader = new URLClassLoader(new URL[] {directory.toUri().toURL()})) {
                BiConsumer<String, long[]> check = (call, both) -> CHECKS.due(call, both[0], both[1]);
                loader.loadClass("ReadmeExamples").getMethod("run", BiConsumer.class).invoke(null, check);
            }
        }
    }

    private static void deleteAll(Path directory) throws IOException {
        try (Stream<Path> files = Files.list(directory)) {
            for (Path file : files.toList()) {
                Files.delete(file);
            }
        }
        Files.delete(directory);
    }

    // ---- tables

    private static void settings(String readme, String document) throws ReflectiveOperationException {
        Matcher row = SETTING.matcher(readme);
        int rows = 0;
        while (row.find()) {
            String name = row.group(1);
            int setting = Integer.parseInt(row.group(2));
            int least = Integer.parseInt(row.group(3));
            int most = Integer.parseInt(row.group(4));
            CHECKS.due(name, StickRests.class.getField(name).getInt(null), setting);
            StickRests stick = new StickRests();
            CHECKS.due(name + " below", stick.set(setting, least - 1), StickRests.BAD_VALUE);
            CHECKS.due(name + " above", stick.set(setting, most + 1), StickRests.BAD_VALUE);
            CHECKS.due(name + " at first", stick.set(setting, least), Integer.parseInt(row.group(5)));
            CHECKS.due(name + " least", stick.set(setting, most), least);
            CHECKS.due(name + " most", stick.count(10 + setting), most);
            String words = name + " (" + least + " to " + most + "; " + row.group(5) + "): " + row.group(6);
            CHECKS.due(words + ": stands in the document", document.contains(words) ? 1 : 0, 1);
            rows++;
        }
        CHECKS.due("settings", rows, 7);
    }

    private static void codes(String readme) throws ReflectiveOperationException {
        Matcher row = CODE.matcher(readme);
        int rows = 0;
        while (row.find()) {
            int code = Integer.parseInt(row.group(2));
            CHECKS.due(row.group(1), StickRests.class.getField(row.group(1)).getInt(null), code);
            if (row.group(3) != null) {
                CHECKS.due(row.group(3), answer(row.group(3)), code);
            }
            rows++;
        }
        CHECKS.due("codes", rows, 6);
    }

    /** What the calls answer that stand in the table of codes. */
    private static int answer(String call) {
        switch (call) {
            case "press(8)": return new StickRests().press(8);
            case "sample(256, 0)": return new StickRests().sample(256, 0);
            case "carryOut()": return new StickRests().carryOut();
            case "restore(1)": return new StickRests().restore(1);
            case "fault()": return Sticks.written("b0").fault();
            default: return 0;
        }
    }

    // ---- commands and names

    private static void commands(String readme) throws IOException, InterruptedException {
        List<String> commands = blocks(readme, "sh");
        CHECKS.due(ALL_TESTS + ": stands there", commands.remove(ALL_TESTS + "\n") ? 1 : 0, 1);
        CHECKS.due(ALL_TESTS + ": can be run", Files.isExecutable(Path.of(ALL_TESTS)) ? 1 : 0, 1);
        CHECKS.due("other commands", commands.size(), 2);
        for (String command : commands) {
            Process process = new ProcessBuilder("sh", "-e", "-c", command).redirectErrorStream(true).start();
            String said = new String(process.getInputStream().readAllBytes());
            if (process.waitFor() != 0) {
                CHECKS.fail(command + said);
            }
        }
    }

    private static void tests(String readme) throws IOException {
        List<String> tests;
        try (Stream<Path> files = Files.list(TESTS)) {
            tests = files.map(file -> file.getFileName().toString()).filter(file -> file.endsWith("Test.java")).toList();
        }
        for (String test : tests) {
            String name = "`" + test.replace(".java", "") + "`";
            CHECKS.due(name + ": stands there", readme.contains(name) ? 1 : 0, 1);
        }
        Matcher name = Pattern.compile("`(\\w+(?:Test|Model))`").matcher(readme);
        while (name.find()) {
            CHECKS.due(name.group(1) + ": is a file", Files.exists(TESTS.resolve(name.group(1) + ".java")) ? 1 : 0, 1);
        }
        Matcher path = Pattern.compile("`((?:\\.\\./shared|src)/[\\w./]+)`").matcher(readme);
        while (path.find()) {
            CHECKS.due(path.group(1) + ": is there", Files.exists(Path.of(path.group(1))) ? 1 : 0, 1);
        }
    }
}
