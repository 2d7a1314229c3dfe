import java.io.IOException;
import java.nio.file.Files;
import java.nio.file.Path;
import java.util.ArrayList;
import java.util.List;
import java.util.regex.Matcher;
import java.util.regex.Pattern;

/** The public face as the class has it written, beside the document, and promise 1. */
public final class FaceTest {

    private static final Due due = new Due("FaceTest");
    private static final Class<IndexOutOfBoundsException> INDEX = IndexOutOfBoundsException.class;
    private static final Path DOCUMENT = Path.of("../shared/DOC.md");
    private static final Path MAIN = Path.of("src/main/java/Readingorder.java");

    public static void main(String[] args) throws IOException {
        constants();
        constantsMayStandInASwitch();
        faceIsWrittenAsInTheDocument();
        headingsStandAheadOfTheirCalls();
        aNewObjectHoldsNothing();
        due.end();
    }

    private static void constants() {
        due.is("NONE", -1, Readingorder.NONE);
        due.is("TEXT", 0, Readingorder.TEXT);
        due.is("ITEM", 1, Readingorder.ITEM);
        due.is("FIGURE", 2, Readingorder.FIGURE);
        due.is("NOTE", 3, Readingorder.NOTE);
        due.is("HEAD_1", 4, Readingorder.HEAD_1);
        due.is("HEAD_2", 5, Readingorder.HEAD_2);
        due.is("HEAD_3", 6, Readingorder.HEAD_3);
    }

    /** That this compiles shows that they are constants to the compiler, too. */
    private static String nameOf(int constant) {
        switch (constant) {
            case Readingorder.NONE: return "NONE";
            case Readingorder.TEXT: return "TEXT";
            case Readingorder.ITEM: return "ITEM";
            case Readingorder.FIGURE: return "FIGURE";
            case Readingorder.NOTE: return "NOTE";
            case Readingorder.HEAD_1: return "HEAD_1";
            case Readingorder.HEAD_2: return "HEAD_2";
            case Readingorder.HEAD_3: return "HEAD_3";
            default: return "?";
        }
    }

    private static void constantsMayStandInASwitch() {
        String[] names = {"NONE", "TEXT", "ITEM", "FIGURE", "NOTE", "HEAD_1", "HEAD_2", "HEAD_3"};
        for (int n = 0; n < names.length; n++) {
            due.are("the constant that is " + (n - 1), names[n], nameOf(n - 1));
        }
    }

    /** The names of the parameters, too, which only the text of the class tells. */
    private static void faceIsWrittenAsInTheDocument() throws IOException {
        String written = Files.readString(MAIN).replaceAll("\\s+", " ");
        List<String> lines = faceOfTheDocument();
        due.is("lines of the face", 22, lines.size());
        for (String line : lines) {
            String want = line.endsWith(");") || line.contains(" throws ") ? line.replaceFirst(";$", " {") : line;
            due.check(written.contains(want), "the class has not: " + want);
        }
    }

    private static List<String> faceOfTheDocument() throws IOException {
        List<String> lines = new ArrayList<>();
        boolean face = false;
        for (String line : Files.readAllLines(DOCUMENT)) {
            face = line.equals("```java") || face && !line.equals("```");
            if (face && line.contains("public ")) {
                lines.add(line.trim());
            }
        }
        return lines;
    }

    private static void headingsStandAheadOfTheirCalls() throws IOException {
        List<String> marks = new ArrayList<>();
        Matcher told = Pattern.compile("Ahead of the calls (.*) the interface says: (---- .*)\\.")
                .matcher(Files.readString(DOCUMENT));
        while (told.find()) {
            marks.add("// " + told.group(2) + "\n");
            for (String call : told.group(1).split(", ")) {
                marks.add(" " + call.replace("`", "") + "(");
            }
        }
        due.is("headings and calls", 3 + 18, marks.size());
        String text = Files.readString(MAIN);
        int at = 0;
        for (String mark : marks) {
            Matcher found = Pattern.compile((mark.startsWith("//") ? "" : "public \\w+") + Pattern.quote(mark)).matcher(text);
            boolean there = found.find(at);
            due.check(there, "the class has not, in its place: " + mark.trim());
            at = there ? found.end() : at;
        }
    }

    private static void aNewObjectHoldsNothing() {
        Run x = new Run();
        for (int page = 0; page < 5; page++) {
            due.is("boxes", 0, x.boxes(page));
            due.is("order", Readingorder.NONE, x.order(page, 0));
            due.is("orderAnew", Readingorder.NONE, x.orderAnew(page, 0));
            due.is("way", 0, x.way(page));
            due.is("faulty", 0, x.faulty(page));
            due.is("approvers", 0, x.approvers(page));
        }
        due.fails("about", INDEX, x, r -> r.about(0, 0));
        due.fails("stands", INDEX, x, r -> r.stands(0) ? 1 : 0);
        Run other = new Run();
        other.box(0, 0, 0, 1, 1, 0);
        other.approve(0, 0);
        due.is("one object's boxes are not another's", 0, x.boxes(0));
        due.fails("one object's approvals are not another's", INDEX, x, r -> r.stands(0) ? 1 : 0);
    }
}
