import java.io.IOException;
import java.lang.reflect.Method;
import java.lang.reflect.Modifier;
import java.nio.file.Files;
import java.nio.file.Path;
import java.util.TreeSet;
import java.util.regex.Matcher;
import java.util.regex.Pattern;

/** README.md tells what is so: its example's answers, all calls and all tests. */
final class ReadmeTest {
    private static final Path README = Path.of("README.md");
    private static final Path TESTS = Path.of("src", "test", "java");

    private ReadmeTest() {
    }

    public static void main(String[] args) throws ReflectiveOperationException, IOException {
        String text = Files.readString(README);
        example(text);
        calls(text);
        tests(text);
        Check.end();
    }

    private static void example(String text) throws ReflectiveOperationException {
        Voucherworks works = new Voucherworks();
        Matcher line = Pattern.compile("(?m)^works\\.([A-Za-z]+)\\((.*?)\\); *// (-?\\d+|true|false)").matcher(text);
        int answers = 0;
        while (line.find()) {
            Object got = call(works, line.group(1), line.group(2));
            Check.due(line.group(), String.valueOf(got), line.group(3));
            answers++;
        }
        int written = text.split("(?m)^works\\.").length - 1;
        Check.due("calls of the example whose answer stands behind them", answers, written);
        Check.holds("there is an example", written > 0);
    }

    private static Object call(Voucherworks works, String name, String written) throws ReflectiveOperationException {
        for (Method method : Voucherworks.class.getMethods()) {
            if (method.getDeclaringClass() == Voucherworks.class && method.getName().equals(name)) {
                String[] texts = written.isEmpty() ? new String[0] : written.split(", ");
                Object[] values = new Object[texts.length];
                for (int i = 0; i < texts.length; i++) {
                    boolean isTruth = method.getParameterTypes()[i] == boolean.class;
                    values[i] = isTruth ? (Object) Boolean.valueOf(texts[i]) : (Object) Integer.valueOf(texts[i]);
                }
                return method.invoke(works, values);
            }
        }
        return "there is no such call";
    }

    private static void calls(String text) {
        TreeSet<String> due = new TreeSet<>();
        for (Method method : Voucherworks.class.getDeclaredMethods()) {
            if (Modifier.isPublic(method.getModifiers())) {
                due.add(method.getName());
            }
        }
        String table = text.substring(text.indexOf("| for | calls |"), text.indexOf("```java"));
        Check.due("the calls in the table", named(table, "`([A-Za-z]+)`").toString(), due.toString());
    }

    private static void tests(String text) throws IOException {
        TreeSet<String> due = new TreeSet<>();
        try (var files = Files.list(TESTS)) {
            files.map(file -> file.getFileName().toString()).filter(name -> name.endsWith("Test.java"))
                .forEach(name -> due.add(name.substring(0, name.length() - ".java".length())));
        }
        Check.due("the tests in the table", named(text, "(?m)^\\| ([A-Za-z]+Test) \\|").toString(), due.toString());
    }

    private static TreeSet<String> named(String text, String pattern) {
        TreeSet<String> all = new TreeSet<>();
        Matcher found = Pattern.compile(pattern).matcher(text);
        while (found.find()) {
            all.add(found.group(1));
        }
        return all;
    }
}
