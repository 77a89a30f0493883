import java.io.IOException;
import java.lang.reflect.Constructor;
import java.lang.reflect.Executable;
import java.lang.reflect.Field;
import java.lang.reflect.Method;
import java.lang.reflect.Modifier;
import java.nio.file.Files;
import java.nio.file.Path;
import java.util.ArrayList;
import java.util.Collections;
import java.util.HashSet;
import java.util.LinkedHashMap;
import java.util.List;
import java.util.Map;
import java.util.Set;

/**
 * Each sentence that a test names stands in the document, in the part that the test names; and each word of the terms
 * and of the promises belongs to such a sentence. The class has the face of the document. Run in the project's root.
 */
public final class DocumentTest {
    private static final Checks CHECKS = new Checks();

    /** A promise begins with its call, or with its constructor, between two of these signs, and a colon. */
    private static final String CALL = "^`[^`]*`: ";

    public static void main(String[] args) throws IOException, IllegalAccessException {
        String document = Files.readString(Path.of("../shared/DOC.md"));
        face(document);
        Map<String, String> parts = parts(document);
        List<Sentence> sentences = Book.sentences();
        noneTwice(sentences);
        for (Map.Entry<String, String> part : parts.entrySet()) {
            allWordsNamed(part.getKey(), part.getValue().replaceFirst(CALL, ""), sentences);
        }
        for (Sentence sentence : sentences) {
            CHECKS.due("part of " + sentence.name() + ": found", parts.containsKey(sentence.part) ? 1 : 0, 1);
        }
        CHECKS.end("DocumentTest");
    }

    /** The class has the face that stands in the document, and nothing else that is public. */
    private static void face(String document) throws IllegalAccessException {
        int start = document.indexOf("```java\n");
        int end = document.indexOf("\n}\n```", start);
        CHECKS.due("the face: found", start >= 0 && end > start ? 1 : 0, 1);
        List<String> due = new ArrayList<>();
        for (String line : document.substring(Math.max(start, 0), Math.max(end, 0)).split("\n")) {
            due.addAll(membersIn(line.trim()));
        }
        Collections.sort(due);
        CHECKS.dueText("the face", String.join("; ", faceOfClass()), String.join("; ", due));
    }

    /** A line of the face: one member, without the names of its arguments, or some constants. */
    private static List<String> membersIn(String line) {
        String constants = "public static final int ";
        List<String> members = new ArrayList<>();
        if (line.startsWith(constants)) {
            for (String constant : line.substring(constants.length()).split("[,;]")) {
                members.add(constants + constant.trim());
            }
        } else if (line.startsWith("public ")) {
            members.add(line.replaceAll(" \\w+(?=[,)])", "").replaceAll(" ?[;{]$", ""));
        }
        return members;
    }

    private static List<String> faceOfClass() throws IllegalAccessException {
        Class<?> stick = StickRests.class;
        List<String> members = new ArrayList<>();
        members.add(Modifier.toString(stick.getModifiers()) + " class " + stick.getName());
        for (Field field : stick.getFields()) {
            members.add(Modifier.toString(field.getModifiers()) + " " + field.getType() + " " + field.getName() + " = "
                + field.getInt(null));
        }
        for (Constructor<?> constructor : stick.getConstructors()) {
            members.add("public " + stick.getName() + argumentsOf(constructor));
        }
        for (Method method : stick.getDeclaredMethods()) {
            if (Modifier.isPublic(method.getModifiers())) {
                members.add(Modifier.toString(method.getModifiers()) + " " + method.getReturnType() + " " + method.getName()
                    + argumentsOf(method));
            }
        }
        Collections.sort(members);
        return members;
    }

    private static String argumentsOf(Executable call) {
        List<String> kinds = new ArrayList<>();
        for (Class<?> kind : call.getParameterTypes()) {
            kinds.add(kind.getName());
        }
        return "(" + String.join(", ", kinds) + ")";
    }

    /** The terms and the promises: the text behind each headline, with each row of white space as one blank. */
    private static Map<String, String> parts(String document) {
        Map<String, String> parts = new LinkedHashMap<>();
        for (String piece : document.split("(?m)^#+ ")) {
            int end = piece.indexOf('\n');
            String heading = end < 0 ? piece : piece.substring(0, end);
            parts.put(heading.trim(), end < 0 ? "" : piece.substring(end).replaceAll("\\s+", " ").trim());
        }
        parts.keySet().removeAll(List.of("", "StickRests", "What it is", "The public face", "Not promised"));
        return parts;
    }

    private static void noneTwice(List<Sentence> sentences) {
        Set<String> names = new HashSet<>();
        for (Sentence sentence : sentences) {
            CHECKS.due(sentence.name() + ": named once", names.add(sentence.name()) ? 1 : 0, 1);
        }
    }

    private static void allWordsNamed(String heading, String text, List<Sentence> sentences) {
        boolean[] named = new boolean[text.length()];
        for (Sentence sentence : sentences) {
            if (sentence.part.equals(heading)) {
                int start = text.indexOf(sentence.words);
                CHECKS.due(sentence.name() + ": stands in the document", Math.min(start, 0), 0);
                for (int i = Math.max(start, 0); start >= 0 && i < start + sentence.words.length(); i++) {
                    named[i] = true;
                }
            }
        }
        CHECKS.dueText("words of " + heading + " without a test", String.join(" ", left(text, named)), "");
    }

    private static List<String> left(String text, boolean[] named) {
        List<String> left = new ArrayList<>();
        StringBuilder row = new StringBuilder();
        for (int i = 0; i <= text.length(); i++) {
            if (i < text.length() && !named[i]) {
                row.append(text.charAt(i));
            } else if (row.length() > 0) {
                if (!row.toString().isBlank()) {
                    left.add(row.toString().trim());
                }
                row.setLength(0);
            }
        }
        return left;
    }
}
