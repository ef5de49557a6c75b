import java.io.IOException;
import java.nio.file.Files;
import java.nio.file.Path;
import java.util.List;
import java.util.TreeSet;
import java.util.regex.Matcher;
import java.util.regex.Pattern;

/** Looks in the program's text for what the rules of the language rule out, as far as a text tells. */
final class LanguageTest {
    private static final Path PROGRAM = Path.of("src", "main", "java", "Voucherworks.java");
    private static final int MOST_LINES = 60;

    /** All classes of others, and all their methods, that the program may name. */
    private static final List<String> TYPES = List.of("Voucherworks", "Arrays", "Math", "Integer",
        "IndexOutOfBoundsException", "IllegalArgumentException", "IllegalStateException",
        "Lands", "Chains", "Cards", "Lots", "Campaigns", "Payments");
    private static final List<String> CALLS = List.of("Arrays.fill", "Math.min", "Math.max", "Integer.bitCount");

    private LanguageTest() {
    }

    public static void main(String[] args) throws IOException {
        String text = Files.readString(PROGRAM);
        Check.holds("signs 1 to 127 alone", text.chars().allMatch(sign -> sign >= 1 && sign <= 127));
        String code = withoutComments(text);
        imports(code);
        wordsRuledOut(code);
        typesAndCalls(code);
        methodsAreShort(code);
        Check.end();
    }

    private static String withoutComments(String text) {
        String code = text.replaceAll("(?s)/\\*.*?\\*/", " ").replaceAll("//[^\n]*", " ");
        return code.replaceAll("\"[^\"\n]*\"", "\"\"");
    }

    private static void imports(String code) {
        Matcher found = Pattern.compile("(?m)^import[^;]*;").matcher(code);
        while (found.find()) {
            Check.due("an import", found.group(), "import java.util.Arrays;");
        }
        Check.holds("no package line", !Pattern.compile("(?m)^package ").matcher(code).find());
    }

    private static void wordsRuledOut(String code) {
        for (String word : List.of("try", "catch", "finally", "synchronized", "assert", "instanceof", "float",
            "double", "volatile", "transient", "native", "protected", "System", "Thread", "Random", "Object",
            "equals", "hashCode", "toString", "null", "import static", "static \\{", "record", "var")) {
            Check.holds("'" + word + "' stands in the program",
                !Pattern.compile("\\b" + word + "(?![A-Za-z])").matcher(code).find());
        }
        Check.holds("no lambda", !code.contains("->"));
        Check.holds("no method reference", !code.contains("::"));
        Check.holds("no text joined by +", !Pattern.compile("\"\\s*\\+|\\+\\s*\"").matcher(code).find());
        Check.holds("no loop without a bound",
            !Pattern.compile("while\\s*\\(true\\)|for\\s*\\([^;]*;\\s*;").matcher(code).find());
    }

    private static void typesAndCalls(String code) {
        Matcher type = Pattern.compile("\\b[A-Z][a-z][A-Za-z]*\\b").matcher(code);
        TreeSet<String> strange = new TreeSet<>();
        while (type.find()) {
            if (!TYPES.contains(type.group())) {
                strange.add(type.group());
            }
        }
        Check.due("classes that are not listed", strange.toString(), "[]");
        Matcher call = Pattern.compile("\\b(?:Arrays|Math|Integer)\\.[A-Za-z]+").matcher(code);
        while (call.find()) {
            boolean isLimit = call.group().equals("Integer.MAX_VALUE");
            Check.holds(call.group() + " is not listed", isLimit || CALLS.contains(call.group()));
        }
    }

    /** A method begins with a line that ends in an opening brace and holds a list of parameters. */
    private static void methodsAreShort(String code) {
        String[] lines = code.split("\n");
        int began = -1;
        int braces = 0;
        int depthAtBegin = 0;
        for (int line = 0; line < lines.length; line++) {
            boolean isHead = lines[line].matches("\\s+(public |private |static |final )*[a-zA-Z\\[\\]]+ [a-zA-Z]+\\(.*");
            if (began < 0 && isHead && !lines[line].contains(" new ") && !lines[line].contains(";")) {
                began = line;
                depthAtBegin = braces;
            }
            for (char sign : lines[line].toCharArray()) {
                braces += sign == '{' ? 1 : sign == '}' ? -1 : 0;
            }
            if (began >= 0 && braces == depthAtBegin && lines[line].contains("}")) {
                Check.holds("the method at line " + (began + 1) + " is long", line - began < MOST_LINES);
                began = -1;
            }
        }
    }
}
