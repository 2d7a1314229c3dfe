/**
 * Every sentence of the document that tells what a call does or refuses, each with a test of its own. With the
 * heading and the words of a sentence as arguments, only what stands for that sentence is run.
 */
public final class SentencesTest {

    static Sentences all() {
        Sentences all = new Sentences();
        TermEdges.addTo(all);
        BoxEdges.addTo(all);
        OrderEdges.addTo(all);
        ApprovalEdges.addTo(all);
        return all;
    }

    static int wrong(String where, String sentence) {
        int wrong = 0;
        for (Sentences.Told told : all().all()) {
            if (told.where().equals(where) && told.sentence().equals(sentence)) {
                wrong += told.wrong();
            }
        }
        return wrong;
    }

    public static void main(String[] args) {
        int wrong = 0;
        if (args.length == 2) {
            wrong = wrong(args[0], args[1]);
        } else {
            for (Sentences.Told told : all().all()) {
                wrong += told.wrong();
            }
        }
        if (wrong != 0) {
            System.exit(1);
        }
    }
}
