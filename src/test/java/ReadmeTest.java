import java.io.IOException;
import java.lang.reflect.Method;
import java.lang.reflect.Modifier;
import java.nio.charset.StandardCharsets;
import java.nio.file.Files;
import java.nio.file.Path;
import java.nio.file.StandardCopyOption;
import java.util.ArrayList;
import java.util.List;
import java.util.TreeSet;
import java.util.regex.Matcher;
import java.util.regex.Pattern;

/** README.md: its example is run as a reader would run it, and what it tells of calls and tests is compared. */
public final class ReadmeTest {

    private static final Due due = new Due("ReadmeTest");
    private static final Path README = Path.of("README.md");
    private static final Path MAIN = Path.of("src/main/java/Readingorder.java");
    private static final Path TESTS = Path.of("src/test/java");
    private static final Path SHARED = Path.of("../shared/tests");
    /** Where the example is run: a directory that has the class and the example alone. */
    private static final Path APART = Path.of("build/readme");

    public static void main(String[] args) throws Exception {
        String readme = Files.readString(README);
        String example = exampleIn(readme);
        theExampleAnswersAsTold(example, blockWith(readme, "java -cp build/example Example"));
        theExampleMakesEveryCall(example);
        eachCallIsTold(readme);
        theConstantsAreTold(readme);
        theTestsAreTold(readme);
        theCommandsNameTests(readme);
        due.end();
    }

    // The blocks of code.

    private static List<String> blocks(String readme, String language) {
        List<String> blocks = new ArrayList<>();
        Matcher block = Pattern.compile("(?ms)^```(\\w*)\n(.*?)^```$").matcher(readme);
        while (block.find()) {
            if (block.group(1).equals(language)) {
                blocks.add(block.group(2));
            }
        }
        return blocks;
    }

    private static String exampleIn(String readme) {
        List<String> blocks = blocks(readme, "java");
        due.is("examples", 1, blocks.size());
        return blocks.isEmpty() ? "" : blocks.get(0);
    }

    private static String blockWith(String readme, String line) {
        for (String block : blocks(readme, "")) {
            if (block.contains(line)) {
                return block;
            }
        }
        due.check(false, "there is no block with: " + line);
        return "";
    }

    // The example.

    private static void theExampleAnswersAsTold(String example, String commands) throws Exception {
        Files.createDirectories(APART.resolve(MAIN).getParent());
        Files.copy(MAIN, APART.resolve(MAIN), StandardCopyOption.REPLACE_EXISTING);
        Files.writeString(APART.resolve("Example.java"), example);
        ProcessBuilder run = new ProcessBuilder("sh", "-e", "-c", commands);
        run.directory(APART.toFile()).redirectErrorStream(true);
        Process process = run.start();
        String printed = new String(process.getInputStream().readAllBytes(), StandardCharsets.UTF_8);
        due.is("how the example ends", 0, process.waitFor());
        List<String> told = toldAnswers(example);
        String[] got = printed.split("\\R");
        due.is("lines that the example prints", told.size(), got.length);
        for (int n = 0; n < Math.min(told.size(), got.length); n++) {
            due.are("line " + (n + 1) + " of the example", told.get(n), got[n]);
        }
    }

    /** What stands beside each line that prints, up to the colon. */
    private static List<String> toldAnswers(String example) {
        List<String> told = new ArrayList<>();
        for (String line : example.split("\n")) {
            if (line.contains("System.out.print")) {
                int comment = line.indexOf("// ");
                due.check(comment >= 0, "the example does not tell what is printed by: " + line.trim());
                told.add(comment < 0 ? "" : line.substring(comment + 3).split(":")[0].trim());
            }
        }
        due.check(!told.isEmpty(), "the example prints nothing");
        return told;
    }

    private static void theExampleMakesEveryCall(String example) {
        for (Method method : calls()) {
            due.check(example.contains("x." + method.getName() + "("), "the example does not call " + method.getName());
        }
        for (String name : new String[] {"IndexOutOfBounds", "IllegalArgument", "IllegalState"}) {
            due.check(example.contains("catch (" + name + "Exception e)"), "the example shows no " + name + "Exception");
        }
    }

    // What is told of the calls.

    private static List<Method> calls() {
        List<Method> calls = new ArrayList<>();
        for (Method method : Readingorder.class.getDeclaredMethods()) {
            if (Modifier.isPublic(method.getModifiers())) {
                calls.add(method);
            }
        }
        return calls;
    }

    private static void eachCallIsTold(String readme) {
        TreeSet<String> want = new TreeSet<>();
        for (Method method : calls()) {
            want.add(written(method));
        }
        TreeSet<String> got = new TreeSet<>();
        Matcher heading = Pattern.compile("(?ms)^#### `([^`]*)`\n(.*?)(?=^#|\\z)").matcher(readme);
        while (heading.find()) {
            String call = heading.group(1);
            String text = heading.group(2);
            got.add(call.replaceAll("int \\w+([,)])", "int$1") + " throws " + exceptionsIn(item(text, "- Throws:")));
            due.check(!item(text, "- Answers:").isEmpty(), "it is not told what this answers: " + call);
            Matcher parameter = Pattern.compile("int (\\w+)[,)]").matcher(call);
            while (parameter.find()) {
                due.check(item(text, "- Takes:").contains("`" + parameter.group(1) + "`"),
                        "it is not told what " + call + " takes as " + parameter.group(1));
            }
        }
        due.are("the calls that are told, with their exceptions", want.toString(), got.toString());
    }

    private static String written(Method method) {
        return method.getReturnType() + " " + method.getName() + "(" + listed(method.getParameterTypes()) + ") throws "
                + listed(method.getExceptionTypes());
    }

    private static String listed(Class<?>[] types) {
        List<String> names = new ArrayList<>();
        for (Class<?> type : types) {
            names.add(type.getSimpleName());
        }
        return String.join(", ", names);
    }

    /** One item of a list, over all its lines. */
    private static String item(String text, String begin) {
        Matcher item = Pattern.compile("(?ms)^" + Pattern.quote(begin) + "(.*?)(?=^- |^\n|\\z)").matcher(text);
        return item.find() ? item.group(1) : "";
    }

    private static String exceptionsIn(String text) {
        List<String> names = new ArrayList<>();
        Matcher name = Pattern.compile("`(\\w+Exception)`").matcher(text);
        while (name.find()) {
            names.add(name.group(1));
        }
        return String.join(", ", names);
    }

    private static void theConstantsAreTold(String readme) {
        String[] told = {"`NONE` is " + Readingorder.NONE, "`TEXT` " + Readingorder.TEXT, "`ITEM` " + Readingorder.ITEM,
            "`FIGURE` " + Readingorder.FIGURE, "`NOTE` " + Readingorder.NOTE, "`HEAD_1` " + Readingorder.HEAD_1,
            "`HEAD_2` " + Readingorder.HEAD_2, "`HEAD_3` " + Readingorder.HEAD_3};
        for (String constant : told) {
            due.check(readme.contains(constant), "it is not told that " + constant);
        }
    }

    // What is told of the tests.

    private static void theTestsAreTold(String readme) throws IOException {
        try (var files = Files.list(TESTS)) {
            for (Path file : files.sorted().toList()) {
                String name = file.getFileName().toString().replace(".java", "");
                boolean isTest = name.endsWith("Test");
                due.check(!isTest || readme.contains("| `" + name + "` |"), "it is not told what " + name + " tests");
            }
        }
        Matcher row = Pattern.compile("\\| `(\\w+)` \\|").matcher(readme);
        while (row.find()) {
            due.check(Files.exists(TESTS.resolve(row.group(1) + ".java")), "there is no test " + row.group(1));
        }
    }

    private static void theCommandsNameTests(String readme) {
        int found = 0;
        Matcher command = Pattern.compile("(?m)^java -cp build/ci/(own|shared/\\w+) (\\w+)(.*)$").matcher(readme);
        while (command.find()) {
            found++;
            String test = command.group(2);
            Path from = command.group(1).equals("own") ? TESTS : SHARED;
            due.check(Files.exists(from.resolve(test + ".java")), "there is no test " + test);
            if (test.equals("SentencesTest")) {
                List<String> words = words(command.group(3));
                due.check(words.size() == 2 && SentencesTest.isTold(words.get(0), words.get(1)),
                        "there is no such sentence: " + words);
            }
        }
        due.check(found > 0, "it is not told how one test is run");
    }

    /** The words in quotes of a command. */
    private static List<String> words(String text) {
        List<String> words = new ArrayList<>();
        Matcher word = Pattern.compile("\"([^\"]*)\"|'([^']*)'").matcher(text);
        while (word.find()) {
            words.add(word.group(1) != null ? word.group(1) : word.group(2));
        }
        return words;
    }
}
