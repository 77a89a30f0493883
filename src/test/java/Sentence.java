import java.util.ArrayList;
import java.util.List;

/** A sentence of the document, the test of it alone, and edits of the class that break the sentence. */
final class Sentence {
    /** In text that is no comment, and with each row of white space as one blank, from stands once; to takes its place. */
    record Break(String from, String to) {
    }

    final String part;
    final String words;
    final List<Break> breaks = new ArrayList<>();
    private final Checks checks;
    private final Runnable test;

    Sentence(String part, String words, Checks checks, Runnable test) {
        this.part = part;
        this.words = words;
        this.checks = checks;
        this.test = test;
    }

    /** BrokenTest looks whether the test fails when this edit has been made. */
    Sentence brokenBy(String from, String to) {
        breaks.add(new Break(from, to));
        return this;
    }

    void beSilent() {
        checks.beSilent();
    }

    String name() {
        return part + " \"" + words + "\"";
    }

    /** Returns whether all answers of the test are as due, and there is one at least. */
    boolean holds() {
        int asked = checks.asked();
        int wrong = checks.wrong();
        checks.about(name());
        try {
            test.run();
        } catch (RuntimeException thrown) {
            checks.fail("threw " + thrown);
        }
        if (checks.asked() == asked) {
            checks.fail("its test asks nothing");
        }
        return checks.wrong() == wrong;
    }
}
