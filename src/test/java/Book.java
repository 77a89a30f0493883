import java.util.ArrayList;
import java.util.List;

/** All sentences of the document that have a test. */
final class Book {
    private Book() {
    }

    static List<Sentence> sentences() {
        List<Sentence> all = new ArrayList<>();
        all.addAll(TermsTest.sentences().all);
        all.addAll(SampleTest.sentences().all);
        all.addAll(ChangesTest.sentences().all);
        all.addAll(AnswersTest.sentences().all);
        all.addAll(TextsTest.sentences().all);
        all.addAll(UndoTest.sentences().all);
        return all;
    }

    /** BrokenTest calls this one in a broken copy of the whole project, where nothing is printed. */
    static boolean holds(int number) {
        Sentence sentence = sentences().get(number);
        sentence.beSilent();
        return sentence.holds();
    }
}
