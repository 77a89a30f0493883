import java.util.ArrayList;
import java.util.List;

/** The sentences that one test file stands for, in the order of the document. */
final class Sentences {
    final List<Sentence> all = new ArrayList<>();
    private final Checks checks;
    private String part = "";

    Sentences(Checks checks) {
        this.checks = checks;
    }

    /** Begins a part of the document; heading is the text of its headline. */
    void part(String heading) {
        part = heading;
    }

    Sentence says(String words, Runnable test) {
        Sentence sentence = new Sentence(part, words, checks, test);
        all.add(sentence);
        return sentence;
    }

    void test(String name) {
        for (Sentence sentence : all) {
            sentence.holds();
        }
        System.out.println(name + ": " + all.size() + " sentences");
        checks.end(name);
    }
}
