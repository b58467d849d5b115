import java.io.IOException;
import java.io.UncheckedIOException;
import java.lang.reflect.Method;
import java.nio.charset.StandardCharsets;
import java.nio.file.Files;
import java.nio.file.Path;
import java.util.List;
import java.util.regex.Matcher;
import java.util.regex.Pattern;
import java.util.stream.Stream;

// README.md tells the calls and the constants in the document's words, and its example answers what it says.
public final class ReadmeTest {
    private static final String README = read(Path.of("README.md"));
    private static final String DOCUMENT = read(Path.of("../shared/DOC.md"));

    private static String read(Path file) {
        try {
            return Files.readString(file, StandardCharsets.UTF_8);
        } catch (IOException failed) {
            throw new UncheckedIOException(failed);
        }
    }

    private static void tells(String words) {
        Checks.due("README.md: " + words, fold(README).contains(fold(words)) ? 1 : 0, 1);
    }

    private static String fold(String text) {
        return text.replaceAll("\\s+", " ");
    }

    /** Each place of the document has its row in a table: how many there are. */
    private static int rows(String pattern) {
        int rows = 0;
        for (Matcher told = Pattern.compile(pattern).matcher(DOCUMENT); told.find(); rows++) {
            tells("\n| `" + told.group(1) + "` | " + told.group(2) + " |\n");
        }
        return rows;
    }

    @Checks.Says("README: what the constants mean, in the document's words")
    static void constants() {
        Checks.due("constants", rows("`([A-Z]+ = [^`]*)`: (.*)\n"), 7);
    }

    @Checks.Says("README: how a user calls it, in the document's words")
    static void calls() {
        Checks.due("promises", rows("## Promise \\d+: .*\n\n`([^`]*)`: (.*)\n"), 25);
    }

    @Checks.Says("README: what the answers below 0 mean, in the document's words")
    static void answersBelow() {
        String[] sentences = {
            "A call that is refused (answers below 0, where not told otherwise) changes nothing.",
            "Of several refusals that a call names the first one named is answered.",
            "An object is used for at most 512 calls after it has been made; what later calls answer is free."};
        for (String sentence : sentences) {
            Checks.due("the document: " + sentence, DOCUMENT.contains(sentence) ? 1 : 0, 1);
            tells(sentence);
        }
    }

    @Checks.Says("README: how a user makes an object of the class and calls it: the example")
    static void example() throws Exception {
        Matcher block = Pattern.compile("(?s)```java\n(.*?)```").matcher(README);
        Checks.due("an example", block.find() ? 1 : 0, 1);
        String[] lines = block.group(1).split("\n");
        Checks.due("a new object first", lines[0].equals("DoFinder x = new DoFinder();") ? 1 : 0, 1);
        DoFinder x = new DoFinder();
        Pattern call = Pattern.compile("x\\.(\\w+)\\(([-0-9, ]*)\\); +// ([-A-Z0-9]+)(: .+)?");
        for (String line : List.of(lines).subList(1, lines.length)) {
            Matcher told = call.matcher(line);
            Checks.due("a call and its answer: " + line, told.matches() ? 1 : 0, 1);
            Checks.due(line, answer(x, told.group(1), told.group(2)), number(told.group(3)));
        }
    }

    private static long answer(DoFinder x, String name, String arguments) throws Exception {
        Object[] numbers = Stream.of(arguments.split(", ")).map(Integer::valueOf).toArray();
        for (Method method : DoFinder.class.getMethods()) {
            if (method.getName().equals(name) && method.getParameterCount() == numbers.length) {
                return ((Number) method.invoke(x, numbers)).longValue();
            }
        }
        throw new IllegalArgumentException("no call " + name);
    }

    /** As it is written, or that of a constant. */
    private static long number(String text) throws Exception {
        boolean constant = Character.isUpperCase(text.charAt(0));
        return constant ? DoFinder.class.getField(text).getLong(null) : Long.parseLong(text);
    }

    @Checks.Says("README: the command by which all tests are run, and each test")
    static void tests() throws IOException {
        tells("```sh\n.ci/run\n```");
        try (Stream<Path> files = Files.list(Path.of("src/test/java"))) {
            files.forEach(file -> tells("`" + file.getFileName().toString().replace(".java", "`")));
        }
    }

    public static void main(String[] args) {
        Checks.runAll(ReadmeTest.class);
    }
}
