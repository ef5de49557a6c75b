import java.io.IOException;
import java.nio.file.Files;
import java.nio.file.Path;
import java.util.List;
import java.util.TreeSet;
import java.util.regex.Matcher;
import java.util.regex.Pattern;

/** Looks in the program's text for what the rules of ../shared/LANGUAGE.md rule out, as far as a text tells. */
final class LanguageTest {
    private static final Path PROGRAM = Path.of("src", "main", "java", "Voucherworks.java");
    private static final int MOST_LINES = 60;

    /** All classes of others that rules 3, 4 and 6 leave. */
    private static final List<String> TYPES = List.of("String", "StringBuilder", "Integer", "Long", "Math", "ArrayList",
        "List", "Iterator", "Iterable", "Comparable", "System", "Arrays", "Override", "IllegalStateException",
        "IllegalArgumentException", "IndexOutOfBoundsException", "ArithmeticException",
        "UnsupportedOperationException", "NoSuchElementException", "RuntimeException");

    private static final List<String> IMPORTS = List.of("ArrayList", "List", "Iterator", "Arrays",
        "NoSuchElementException");

    private LanguageTest() {
    }

    public static void main(String[] args) throws IOException {
        String text = Files.readString(PROGRAM);
        Check.holds("signs 1 to 127 alone", text.chars().allMatch(sign -> sign >= 1 && sign <= 127));
        String code = withoutComments(text);
        imports(code);
        wordsRuledOut(code);
        types(code);
        staticCalls(code);
        methodsAreShort(code);
        Check.end();
    }

    private static String withoutComments(String text) {
        String code = text.replaceAll("(?s)/\\*.*?\\*/", " ").replaceAll("//[^\n]*", " ");
        return code.replaceAll("\"[^\"\n]*\"", "\"\"");
    }

    private static void imports(String code) {
        Matcher found = Pattern.compile("(?m)^import ([^;]*);").matcher(code);
        while (found.find()) {
            boolean isListed = found.group(1).startsWith("java.util.")
                && IMPORTS.contains(found.group(1).substring("java.util.".length()));
            Check.holds("the import " + found.group(1), isListed);
        }
        Check.holds("no package line", !Pattern.compile("(?m)^package ").matcher(code).find());
    }

    private static void wordsRuledOut(String code) {
        for (String word : List.of("finally", "synchronized", "assert", "volatile", "transient", "native", "protected",
            "hashCode", "var", "static \\{", "try \\(", "getMessage", "static(?! final)[A-Za-z\\[\\] ]* [a-z][A-Za-z]* ?[=;]")) {
            Check.holds("'" + word + "' stands in the program",
                !Pattern.compile("\\b" + word + "(?![A-Za-z])").matcher(code).find());
        }
        Check.holds("no lambda", !Pattern.compile("(?<!case [^:;{}]{1,200}|default )->").matcher(code).find());
        Check.holds("no method reference", !code.contains("::"));
        Check.holds("no text joined by +", !Pattern.compile("\"\\s*\\+|\\+\\s*\"").matcher(code).find());
        Check.holds("no loop without a bound",
            !Pattern.compile("while\\s*\\(true\\)|for\\s*\\([^;]*;\\s*;").matcher(code).find());
    }

    private static void types(String code) {
        TreeSet<String> own = new TreeSet<>();
        Matcher declared = Pattern.compile("\\b(?:class|record|enum|interface) ([A-Z][A-Za-z]*)").matcher(code);
        while (declared.find()) {
            own.add(declared.group(1));
        }
        Check.holds("some twelve classes", own.size() <= 12);
        TreeSet<String> strange = new TreeSet<>();
        Matcher type = Pattern.compile("\\b[A-Z][a-z][A-Za-z]*\\b").matcher(code);
        while (type.find()) {
            if (!TYPES.contains(type.group()) && !own.contains(type.group())) {
                strange.add(type.group());
            }
        }
        Check.due("classes that are not listed", strange.toString(), "[]");
    }

    private static void staticCalls(String code) {
        Matcher call = Pattern.compile("\\b(?:Arrays|Math|Integer|Long|System|List)\\.([A-Za-z]+)").matcher(code);
        while (call.find()) {
            boolean isListed = switch (call.group().substring(0, call.group().indexOf('.'))) {
                case "System" -> call.group(1).equals("arraycopy");
                case "Arrays" -> List.of("copyOf", "copyOfRange", "fill").contains(call.group(1));
                case "List" -> call.group(1).equals("of");
                case "Math" -> List.of("abs", "max", "min", "floorDiv", "floorMod").contains(call.group(1));
                default -> !call.group(1).endsWith("Exact");
            };
            Check.holds(call.group() + " is not listed", isListed);
        }
    }

    /** A method begins with a line that ends in an opening brace and holds a list of parameters. */
    private static void methodsAreShort(String code) {
        String[] lines = code.split("\n");
        int began = -1;
        int braces = 0;
        int depthAtBegin = 0;
        for (int line = 0; line < lines.length; line++) {
            boolean isHead = lines[line].matches("\\s+(public |private |static |final )*[a-zA-Z\\[\\]]+ [a-zA-Z]+\\(.*");
            if (began < 0 && isHead && !lines[line].contains(" new ") && !lines[line].contains(";")) {
                began = line;
                depthAtBegin = braces;
            }
            for (char sign : lines[line].toCharArray()) {
                braces += sign == '{' ? 1 : sign == '}' ? -1 : 0;
            }
            if (began >= 0 && braces == depthAtBegin && lines[line].contains("}")) {
                Check.holds("the method at line " + (began + 1) + " is long", line - began < MOST_LINES);
                began = -1;
            }
        }
    }
}
