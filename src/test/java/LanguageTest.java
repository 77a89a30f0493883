import java.io.IOException;
import java.lang.reflect.Constructor;
import java.lang.reflect.Field;
import java.lang.reflect.Method;
import java.lang.reflect.Modifier;
import java.nio.charset.StandardCharsets;
import java.nio.file.Files;
import java.nio.file.Path;
import java.util.ArrayList;
import java.util.Collections;
import java.util.List;
import java.util.regex.Pattern;

/** The rules of LANGUAGE.md that can be seen in the source and in the face of the class; run in the project's root. */
public final class LanguageTest {
    private static final Checks CHECKS = new Checks();

    private static final String[] FACE = {
        "int set(int,int)", "int sample(int,int)", "int hold(int,int,int)", "int press(int)", "int letUp(int)", "int reset()",
        "int of(int,int)", "int direction(int,int)", "int count(int)", "int wouldTell(int,int)", "int learnedIn(int,int)",
        "int edge(int,int)", "int driftsIn(int,int)", "int put(long)", "int wipe()", "int fault()", "int carryOut()",
        "int undo()", "int save(int)", "int restore(int)"};
    private static final String[] CONSTANTS = {"NO_SUCH -1", "BAD_VALUE -2", "BAD_TEXT -3", "TOO_MANY -4", "NOT_POSSIBLE -5",
        "NONE -6", "SLOW 0", "ZONE 1", "WIDE 2", "REACH 3", "CORNER 4", "STILL 5", "SHAKE 6"};

    public static void main(String[] args) throws IOException, IllegalAccessException {
        face();
        constants();
        insideClasses();
        source();
        CHECKS.end("LanguageTest");
    }

    private static void same(String what, List<String> got, List<String> want) {
        Collections.sort(got);
        Collections.sort(want);
        if (!got.equals(want)) {
            System.out.println(what + ": " + got + " instead of " + want);
        }
        CHECKS.due(what, got.equals(want) ? 1 : 0, 1);
    }

    private static void face() {
        CHECKS.due("public and final", StickRests.class.getModifiers(), Modifier.PUBLIC | Modifier.FINAL);
        Constructor<?>[] constructors = StickRests.class.getDeclaredConstructors();
        CHECKS.due("one constructor", constructors.length, 1);
        CHECKS.due("without arguments", constructors[0].getParameterCount(), 0);
        CHECKS.due("that is public", constructors[0].getModifiers(), Modifier.PUBLIC);
        List<String> methods = new ArrayList<>();
        List<String> publicNames = new ArrayList<>();
        for (Method method : StickRests.class.getDeclaredMethods()) {
            if (Modifier.isPublic(method.getModifiers())) {
                List<String> kinds = new ArrayList<>();
                for (Class<?> kind : method.getParameterTypes()) {
                    kinds.add(kind.getName());
                }
                methods.add(method.getReturnType() + " " + method.getName() + "(" + String.join(",", kinds) + ")");
                publicNames.add(method.getName());
            }
        }
        same("the public methods", methods, new ArrayList<>(List.of(FACE)));
        for (Method method : StickRests.class.getDeclaredMethods()) {
            int modifiers = method.getModifiers();
            if (!Modifier.isPublic(modifiers)) {
                CHECKS.due(method.getName() + " is private", Modifier.isPrivate(modifiers) ? 1 : 0, 1);
                CHECKS.due(method.getName() + " bears a public name", publicNames.contains(method.getName()) ? 1 : 0, 0);
            }
            CHECKS.due(method.getName() + " takes at most seven", Math.min(method.getParameterCount(), 8) < 8 ? 1 : 0, 1);
        }
    }

    private static void constants() throws IllegalAccessException {
        List<String> constants = new ArrayList<>();
        for (Field field : StickRests.class.getDeclaredFields()) {
            int modifiers = field.getModifiers();
            if (Modifier.isPublic(modifiers)) {
                constants.add(field.getName() + " " + field.getInt(null));
            } else {
                CHECKS.due(field.getName() + " is private", Modifier.isPrivate(modifiers) ? 1 : 0, 1);
            }
            CHECKS.due(field.getName() + " is final if static", Modifier.isStatic(modifiers) && !Modifier.isFinal(modifiers) ? 1 : 0, 0);
        }
        same("the public constants", constants, new ArrayList<>(List.of(CONSTANTS)));
    }

    private static void insideClasses() {
        Class<?>[] inside = StickRests.class.getDeclaredClasses();
        CHECKS.due("some twelve classes", inside.length <= 12 ? 1 : 0, 1);
        for (Class<?> one : inside) {
            int modifiers = one.getModifiers();
            CHECKS.due(one.getName() + " is static", Modifier.isStatic(modifiers) ? 1 : 0, 1);
            CHECKS.due(one.getName() + " is not in the face", Modifier.isPublic(modifiers) || Modifier.isProtected(modifiers) ? 1 : 0, 0);
            CHECKS.due(one.getName() + " has some twenty fields", one.getDeclaredFields().length <= 20 ? 1 : 0, 1);
        }
    }

    private static void source() throws IOException {
        byte[] bytes = Files.readAllBytes(Path.of("src/main/java/StickRests.java"));
        String code = new String(bytes, StandardCharsets.ISO_8859_1)
            .replaceAll("(?s)/\\*.*?\\*/", " ").replaceAll("//[^\n]*", " ").replaceAll("\"([^\"\\\\]|\\\\.)*\"", " ")
            .replaceAll("(case\\b[^;{}]*?|default\\s*)->", " ");
        String[] ruledOut = {"throw", "throws", "try", "catch", "finally", "synchronized", "assert", "import", "package", "native",
            "volatile", "transient", "\\w+Exact", "\\w*Exception", "Object", "hashCode", "Thread", "Random",
            "System\\.(?!arraycopy)", "->", "::", "new\\s+\\w+(<[^>]*>)?\\(\\)\\s*\\{", "static\\s*\\{"};
        for (String word : ruledOut) {
            String pattern = Character.isLetter(word.charAt(0)) && !word.contains("\\") ? "\\b" + word + "\\b" : word;
            CHECKS.due("found " + word, Pattern.compile(pattern).matcher(code).find() ? 1 : 0, 0);
        }
        boolean plain = true;
        for (byte sign : bytes) {
            plain &= sign > 0 && sign < 127;
        }
        CHECKS.due("signs 1 to 126 alone", plain ? 1 : 0, 1);
    }
}
