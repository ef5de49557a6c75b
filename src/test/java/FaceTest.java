import java.lang.reflect.Constructor;
import java.lang.reflect.Field;
import java.lang.reflect.Method;
import java.lang.reflect.Modifier;
import java.util.Arrays;
import java.util.Set;
import java.util.TreeSet;

/** The class has the document's face, to the throws clause, and nothing beside it that can be seen. */
final class FaceTest {
    private static final String I = "IndexOutOfBoundsException";
    private static final String A = "IllegalArgumentException";
    private static final String S = "IllegalStateException";

    private FaceTest() {
    }

    public static void main(String[] args) {
        methods();
        constants();
        constructors();
        nestedClasses();
        Check.end();
    }

    private static Set<String> due() {
        return new TreeSet<>(Arrays.asList(
            "int law(int, int, int, int) " + I + " " + A,
            "int rate(int, int) " + I + " " + A,
            "int sell(int, int, int) " + I + " " + A + " " + S,
            "int load(int, int, boolean) " + I + " " + A + " " + S,
            "int campaign(boolean, int, int) " + A + " " + S,
            "boolean bar(int, int, boolean) " + I + " " + A,
            "int best(int) " + A,
            "int bestAnew(int) " + A,
            "int fewest(int) " + A,
            "int pay(int, int) " + I + " " + A + " " + S,
            "int whyNot(int, int) " + I + " " + A,
            "int giveBack(int, int) " + I + " " + A + " " + S,
            "int convert(int, int) " + I + " " + A + " " + S,
            "int join(int, int) " + I + " " + A + " " + S,
            "boolean attempt(int, int) " + I + " " + A + " " + S,
            "boolean free(int) " + I,
            "int pass() " + S,
            "int die(int, int) " + I + " " + A + " " + S,
            "int month()",
            "int ofCard(int, int) " + I + " " + A,
            "int ofLot(int, int) " + I + " " + A,
            "int orderAt(int, int) " + I,
            "int ofPayment(int, int) " + I + " " + A,
            "int taken(int, int) " + I,
            "int ofChain(int, int) " + I + " " + A,
            "int owed(int, int) " + I,
            "int leftAnew(int) " + I,
            "int booked(int) " + I));
    }

    private static String tell(Method method) {
        StringBuilder text = new StringBuilder();
        text.append(method.getReturnType().getName()).append(' ').append(method.getName()).append('(');
        for (Class<?> type : method.getParameterTypes()) {
            text.append(text.charAt(text.length() - 1) == '(' ? "" : ", ").append(type.getName());
        }
        text.append(')');
        for (Class<?> kind : method.getExceptionTypes()) {
            text.append(' ').append(kind.getSimpleName());
        }
        return text.toString();
    }

    private static void methods() {
        Set<String> got = new TreeSet<>();
        Set<String> open = new TreeSet<>();
        for (Method method : Voucherworks.class.getDeclaredMethods()) {
            if (Modifier.isPublic(method.getModifiers())) {
                got.add(tell(method));
                open.add(method.getName());
            }
        }
        Check.due("public methods", got.toString(), due().toString());
        for (Method method : Voucherworks.class.getDeclaredMethods()) {
            if (!Modifier.isPublic(method.getModifiers()) && !method.isSynthetic()) {
                Check.holds(method + " must be private", Modifier.isPrivate(method.getModifiers()));
                Check.holds(method + " bears a public name", !open.contains(method.getName()));
            }
        }
    }

    private static void constants() {
        Set<String> got = new TreeSet<>();
        for (Field field : Voucherworks.class.getDeclaredFields()) {
            if (Modifier.isPublic(field.getModifiers())) {
                got.add(Modifier.toString(field.getModifiers()) + " " + field.getType() + " " + field.getName());
            } else {
                Check.holds(field + " must be private", Modifier.isPrivate(field.getModifiers()));
            }
        }
        Set<String> due = new TreeSet<>();
        for (String name : "NONE BOUGHT RETURNED CONVERTED GRANTED OPEN FROZEN CLOSED".split(" ")) {
            due.add("public static final int " + name);
        }
        Check.due("public fields", got.toString(), due.toString());
    }

    private static void constructors() {
        Constructor<?>[] all = Voucherworks.class.getDeclaredConstructors();
        Check.due("constructors", all.length, 1);
        Check.due("its parameters", all[0].getParameterCount(), 0);
        Check.holds("it is public", Modifier.isPublic(all[0].getModifiers()));
        int kind = Voucherworks.class.getModifiers();
        Check.holds("the class is public and final", Modifier.isPublic(kind) && Modifier.isFinal(kind));
    }

    private static void nestedClasses() {
        for (Class<?> nested : Voucherworks.class.getDeclaredClasses()) {
            int kind = nested.getModifiers();
            Check.holds(nested + " is static", Modifier.isStatic(kind));
            Check.holds(nested + " is not public or protected", !Modifier.isPublic(kind) && !Modifier.isProtected(kind));
            Check.holds(nested + " has some twenty fields at most", nested.getDeclaredFields().length <= 20);
            for (Method method : nested.getDeclaredMethods()) {
                boolean isPrivate = Modifier.isPrivate(method.getModifiers());
                Check.holds(method + " bears a public name",
                    !isPrivate || due().stream().noneMatch(face -> face.contains(" " + method.getName() + "(")));
            }
        }
    }
}
