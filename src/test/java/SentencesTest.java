/**
 * Every sentence of the document that tells what a call does or refuses, each with a test of its own. With the
 * heading and the words of a sentence as arguments, only what stands for that sentence is run.
 */
public final class SentencesTest {

    static Sentences all() {
        Sentences all = new Sentences();
        FaceEdges.addTo(all);
        TermEdges.addTo(all);
        BoxEdges.addTo(all);
        OrderEdges.addTo(all);
        ApprovalEdges.addTo(all);
        return all;
    }

    static int wrong(String where, String sentence) {
        int wrong = 0;
        for (Sentences.Told told : all().all()) {
            if (told.where().equals(where) && told.sentence().equals(sentence)) {
                wrong += told.wrong();
            }
        }
        return wrong;
    }

    static boolean isTold(String where, String sentence) {
        for (Sentences.Told told : all().all()) {
            if (told.where().equals(where) && told.sentence().equals(sentence)) {
                return true;
            }
        }
        return false;
    }

    private static int allWrong() {
        int wrong = 0;
        for (Sentences.Told told : all().all()) {
            wrong += told.wrong();
        }
        return wrong;
    }

    public static void main(String[] args) {
        if (args.length != 0 && (args.length != 2 || !isTold(args[0], args[1]))) {
            System.out.println("no test stands for that: give a heading and a sentence, or nothing for all");
            System.exit(1);
        }
        int wrong = args.length == 0 ? allWrong() : wrong(args[0], args[1]);
        if (wrong != 0) {
            System.exit(1);
        }
    }
}
