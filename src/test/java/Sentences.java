import java.util.ArrayList;
import java.util.List;

/** Tests of which each stands for one sentence of the document. */
final class Sentences {

    interface Test {
        void on(Due due);
    }

    /** A sentence as it is written under a heading of the document, and its test. */
    record Told(String where, String sentence, Test test) {

        int wrong() {
            Due due = new Due(where + ", \"" + sentence + "\"");
            try {
                test.on(due);
            } catch (RuntimeException e) {
                due.check(false, "the test came upon " + e);
            }
            due.tell();
            return due.wrong();
        }
    }

    private final List<Told> all = new ArrayList<>();

    void add(String where, String sentence, Test test) {
        all.add(new Told(where, sentence, test));
    }

    List<Told> all() {
        return all;
    }
}
