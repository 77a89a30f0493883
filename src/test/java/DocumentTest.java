import java.io.IOException;
import java.nio.file.Files;
import java.nio.file.Path;
import java.util.ArrayList;
import java.util.HashSet;
import java.util.LinkedHashMap;
import java.util.List;
import java.util.Map;
import java.util.Set;

/**
 * Each sentence that a test names stands in the document, in the part that the test names; and each word of the terms
 * and of the promises belongs to such a sentence. Run in the project's root.
 */
public final class DocumentTest {
    private static final Checks CHECKS = new Checks();

    /** A promise begins with its call, or with its constructor, between two of these signs, and a colon. */
    private static final String CALL = "^`[^`]*`: ";

    public static void main(String[] args) throws IOException {
        Map<String, String> parts = parts(Files.readString(Path.of("../shared/DOC.md")));
        List<Sentence> sentences = Book.sentences();
        noneTwice(sentences);
        for (Map.Entry<String, String> part : parts.entrySet()) {
            allWordsNamed(part.getKey(), part.getValue().replaceFirst(CALL, ""), sentences);
        }
        for (Sentence sentence : sentences) {
            CHECKS.due("part of " + sentence.name() + ": found", parts.containsKey(sentence.part) ? 1 : 0, 1);
        }
        CHECKS.end("DocumentTest");
    }

    /** The terms and the promises: the text behind each headline, with each row of white space as one blank. */
    private static Map<String, String> parts(String document) {
        Map<String, String> parts = new LinkedHashMap<>();
        for (String piece : document.split("(?m)^#+ ")) {
            int end = piece.indexOf('\n');
            String heading = end < 0 ? piece : piece.substring(0, end);
            parts.put(heading.trim(), end < 0 ? "" : piece.substring(end).replaceAll("\\s+", " ").trim());
        }
        parts.keySet().removeAll(List.of("", "StickRests", "What it is", "The public face", "Not promised"));
        return parts;
    }

    private static void noneTwice(List<Sentence> sentences) {
        Set<String> names = new HashSet<>();
        for (Sentence sentence : sentences) {
            CHECKS.due(sentence.name() + ": named once", names.add(sentence.name()) ? 1 : 0, 1);
        }
    }

    private static void allWordsNamed(String heading, String text, List<Sentence> sentences) {
        boolean[] named = new boolean[text.length()];
        for (Sentence sentence : sentences) {
            if (sentence.part.equals(heading)) {
                int start = text.indexOf(sentence.words);
                CHECKS.due(sentence.name() + ": stands in the document", Math.min(start, 0), 0);
                for (int i = Math.max(start, 0); start >= 0 && i < start + sentence.words.length(); i++) {
                    named[i] = true;
                }
            }
        }
        CHECKS.dueText("words of " + heading + " without a test", String.join(" ", left(text, named)), "");
    }

    private static List<String> left(String text, boolean[] named) {
        List<String> left = new ArrayList<>();
        StringBuilder row = new StringBuilder();
        for (int i = 0; i <= text.length(); i++) {
            if (i < text.length() && !named[i]) {
                row.append(text.charAt(i));
            } else if (row.length() > 0) {
                if (!row.toString().isBlank()) {
                    left.add(row.toString().trim());
                }
                row.setLength(0);
            }
        }
        return left;
    }
}
