import java.io.IOException;
import java.io.OutputStream;
import java.io.PrintStream;
import java.net.URL;
import java.net.URLClassLoader;
import java.nio.file.Files;
import java.nio.file.Path;
import java.util.ArrayList;
import java.util.Arrays;
import java.util.List;
import java.util.TreeMap;
import java.util.TreeSet;
import java.util.concurrent.TimeUnit;
import java.util.stream.Stream;
import javax.tools.JavaCompiler;
import javax.tools.ToolProvider;

/**
 * Tests the tests of single sentences: that they name the sentences in the document's own words and leave none
 * out, and that each fails when the class is changed so that its sentence does not hold.
 */
public final class Broken {

    private static final Path DOCUMENT = Path.of("../shared/DOC.md");
    private static final Path MAIN = Path.of("src/main/java/Readingorder.java");
    private static final Path TESTS = Path.of("src/test/java");
    private static final Path CHANGES = Path.of("src/test/broken/changes.txt");
    private static final Path BUILD = Path.of("build/broken");
    private static final int SECONDS = 60;

    /** A change of the class by which a sentence does not hold any more. */
    private static final class Change {
        final int line;
        final String where;
        final String sentence;
        /** At which text to begin, what to look for from there, and what to put for it. */
        final List<String[]> edits = new ArrayList<>();

        Change(int line, String where, String sentence) {
            this.line = line;
            this.where = where;
            this.sentence = sentence;
        }

        String madeIn(String text) {
            for (String[] edit : edits) {
                int begin = text.indexOf(edit[0]);
                int at = begin < 0 ? -1 : text.indexOf(edit[1], begin);
                if (at < 0) {
                    return null;
                }
                text = text.substring(0, at) + edit[2] + text.substring(at + edit[1].length());
            }
            return text;
        }
    }

    private static int wrong = 0;

    public static void main(String[] args) throws Exception {
        List<Change> changes = changes();
        TreeSet<String> told = told();
        compareWithTheDocument(told);
        TreeSet<String> changed = new TreeSet<>();
        for (Change change : changes) {
            changed.add(change.where + ": " + change.sentence);
        }
        for (String sentence : told) {
            check(changed.contains(sentence), "no change breaks " + sentence);
        }
        int from = args.length > 0 ? Integer.parseInt(args[0]) : 0;
        int made = 0;
        for (Change change : changes) {
            if (change.line >= from) {
                tryOut(change);
                made++;
            }
        }
        System.out.println(told.size() + " sentences, " + made + " changes, " + wrong + " wrong");
        // A broken class may still run in a thread of its own.
        Runtime.getRuntime().halt(wrong == 0 ? 0 : 1);
    }

    private static void check(boolean right, String otherwise) {
        if (!right) {
            wrong++;
            System.out.println(otherwise);
        }
    }

    private static List<Change> changes() throws IOException {
        List<Change> changes = new ArrayList<>();
        List<String> lines = Files.readAllLines(CHANGES);
        String at = "";
        String from = "";
        for (int n = 0; n < lines.size(); n++) {
            String line = lines.get(n);
            if (line.isBlank() || line.startsWith("#")) {
                continue;
            }
            if (!line.startsWith("  ")) {
                int colon = line.indexOf(": ");
                changes.add(new Change(n + 1, line.substring(0, colon), line.substring(colon + 2)));
                at = "";
            } else if (line.startsWith("  at ")) {
                at = line.substring(5);
            } else if (line.startsWith("  - ")) {
                from = line.substring(4);
            } else {
                String to = line.length() > 4 ? line.substring(4) : "";
                changes.get(changes.size() - 1).edits.add(new String[] {at, from, to});
            }
        }
        return changes;
    }

    private static TreeSet<String> told() {
        TreeSet<String> told = new TreeSet<>();
        for (Sentences.Told one : SentencesTest.all().all()) {
            check(told.add(one.where() + ": " + one.sentence()), "there twice: " + one.where() + ": " + one.sentence());
        }
        return told;
    }

    // The words of the document.

    private static void compareWithTheDocument(TreeSet<String> told) throws IOException {
        TreeMap<String, String> sections = sections();
        TreeMap<String, boolean[]> quoted = new TreeMap<>();
        sections.forEach((where, text) -> quoted.put(where, new boolean[text.length()]));
        for (String one : told) {
            int colon = one.indexOf(": ");
            String where = one.substring(0, colon);
            String sentence = one.substring(colon + 2);
            String text = sections.getOrDefault(where, "");
            int at = text.indexOf(sentence);
            check(at >= 0, "not in the document: " + one);
            for (; at >= 0; at = text.indexOf(sentence, at + 1)) {
                Arrays.fill(quoted.get(where), at, at + sentence.length(), true);
            }
        }
        sections.forEach((where, text) -> tellTheRest(where, text, quoted.get(where)));
    }

    private static void tellTheRest(String where, String text, boolean[] quoted) {
        StringBuilder rest = new StringBuilder();
        for (int at = 0; at < quoted.length; at++) {
            rest.append(quoted[at] ? ' ' : text.charAt(at));
        }
        String left = rest.toString().replaceAll("[ .;-]+", " ").trim();
        check(left.isEmpty(), "without a test, " + where + ": " + left);
    }

    /** The text under each heading that promises something, but for how a call is written under its promise. */
    private static TreeMap<String, String> sections() throws IOException {
        TreeMap<String, String> sections = new TreeMap<>();
        String part = "";
        String where = "";
        for (String line : Files.readAllLines(DOCUMENT)) {
            if (line.startsWith("## ")) {
                part = line.substring(3);
                where = part.split(":")[0];
            } else if (line.startsWith("### ")) {
                where = line.substring(4);
            } else if (part.equals("What it is") || part.equals("Terms") || part.startsWith("Promise ")) {
                String words = line.replaceFirst("^`[A-Za-z ]+\\(.*?\\)[^`]*`: ", "");
                if (!words.startsWith("Ahead of the calls")) {
                    sections.merge(where, words, (text, more) -> text + " " + more);
                }
            } else if (part.equals("The public face") && line.contains("public ")) {
                sections.merge(where, line.trim(), (text, more) -> text + " " + more);
            }
        }
        return sections;
    }

    // The changes of the class.

    private static void tryOut(Change change) throws Exception {
        String name = "line " + change.line + ", " + change.where + ": " + change.sentence;
        String text = change.madeIn(Files.readString(MAIN));
        check(text != null, "the class has not what is to be changed: " + name);
        if (text == null) {
            return;
        }
        Path made = BUILD.resolve(String.valueOf(change.line));
        Files.createDirectories(made);
        Path file = made.resolve("Readingorder.java");
        Files.writeString(file, text);
        if (!compiles(file, made)) {
            check(false, "the change does not compile: " + name);
            return;
        }
        check(fails(made, change), "the tests do not see: " + name);
    }

    private static boolean compiles(Path file, Path made) throws IOException {
        JavaCompiler compiler = ToolProvider.getSystemJavaCompiler();
        List<String> arguments = new ArrayList<>(List.of("-encoding", "UTF-8", "-d", made.toString(), file.toString()));
        try (Stream<Path> tests = Files.list(TESTS)) {
            tests.map(Path::toString).filter(one -> one.endsWith(".java")).forEach(arguments::add);
        }
        return compiler.run(null, System.out, System.out, arguments.toArray(new String[0])) == 0;
    }

    /** Whether a test that stands for the sentence fails, or comes to no end. */
    private static boolean fails(Path made, Change change) throws Exception {
        int[] found = {-1};
        PrintStream out = System.out;
        Thread thread = new Thread(() -> found[0] = wrongIn(made, change));
        thread.setDaemon(true);
        System.setOut(new PrintStream(OutputStream.nullOutputStream()));
        thread.start();
        thread.join(TimeUnit.SECONDS.toMillis(SECONDS));
        System.setOut(out);
        return found[0] != 0;
    }

    private static int wrongIn(Path made, Change change) {
        try (URLClassLoader loader = new URLClassLoader(new URL[] {made.toUri().toURL()},
                ClassLoader.getPlatformClassLoader())) {
            Class<?> tests = loader.loadClass("SentencesTest");
            var wrong = tests.getDeclaredMethod("wrong", String.class, String.class);
            wrong.setAccessible(true);
            return (int) wrong.invoke(null, change.where, change.sentence);
        } catch (ReflectiveOperationException | IOException e) {
            return -1;
        }
    }
}
