import java.io.IOException;
import java.nio.file.Files;
import java.nio.file.Path;
import java.util.ArrayList;
import java.util.List;
import java.util.TreeSet;
import java.util.regex.Matcher;
import java.util.regex.Pattern;

/** Each sentence of the document's terms and promises stands at a test of its own: Check.sentence(promise, words). */
final class SentencesTest {
    private static final Path DOCUMENT = Path.of("..", "shared", "DOC.md");
    private static final Path TESTS = Path.of("src", "test", "java");

    private SentencesTest() {
    }

    public static void main(String[] args) throws IOException {
        if (!Files.exists(DOCUMENT)) {
            System.out.println("the document is not here to be held against");
            return;
        }
        TreeSet<String> tested = tested();
        List<String> sentences = sentences(Files.readString(DOCUMENT));
        for (String sentence : sentences) {
            Check.holds("no test tells that it is for " + sentence, tested.contains(sentence));
        }
        for (String sentence : tested) {
            Check.holds("the document does not say " + sentence, sentences.contains(sentence));
        }
        Check.end();
    }

    // ---- what the document says

    private static List<String> sentences(String document) {
        List<String> all = new ArrayList<>();
        int promise = -1;
        for (String line : document.split("\n")) {
            Matcher heading = Pattern.compile("## (Promise (\\d+)|Terms)?.*").matcher(line);
            if (heading.matches()) {
                boolean isPromise = heading.group(2) != null;
                promise = isPromise ? Integer.parseInt(heading.group(2)) : heading.group(1) != null ? 0 : -1;
            } else if (promise == 0) {
                terms(line, all);
            } else if (promise > 0 && !line.isBlank()) {
                all.add(promise + " " + line.replaceAll("^`.*?`: (?=[A-Z])|^- ", "").trim());
            }
        }
        return all;
    }

    /** Lines without an end of a sentence are headings. */
    private static void terms(String line, List<String> all) {
        if (!line.matches(".*[.:]") || line.startsWith("Ahead of the calls")) {
            return;
        }
        for (String sentence : line.replaceAll("^\\d+\\. ", "").split("(?<=\\.) (?=[A-Z])")) {
            all.add("0 " + sentence);
        }
    }

    // ---- what the tests tell

    private static TreeSet<String> tested() throws IOException {
        TreeSet<String> all = new TreeSet<>();
        try (var files = Files.list(TESTS)) {
            for (Path file : files.filter(path -> path.toString().endsWith("Test.java")).toList()) {
                tested(Files.readString(file).replaceAll("\"\\s*\\+\\s*\"", ""), all);
            }
        }
        return all;
    }

    private static void tested(String text, TreeSet<String> all) {
        Matcher said = Pattern.compile("Check\\.sentence\\((\\d+),\\s*(\"([^\"]*)\"|([A-Z_]+))\\)").matcher(text);
        while (said.find()) {
            String words = said.group(3) != null ? said.group(3) : constant(said.group(4), text);
            all.add(said.group(1) + " " + words);
        }
    }

    private static String constant(String name, String text) {
        Matcher found = Pattern.compile("String " + name + "\\s*=\\s*\"([^\"]*)\"").matcher(text);
        return found.find() ? found.group(1) : "a constant that is not there: " + name;
    }
}
