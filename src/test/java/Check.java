import java.util.List;

/** Counts what is not as due, and tells of it; every test ends with end(). */
final class Check {
    private static int looked = 0;
    private static int wrong = 0;
    private static String sentence = "";

    private Check() {
    }

    interface Call {
        void make();
    }

    /** What is looked at from now on tests these words of the document: of a promise, or of its terms for 0. */
    static void sentence(int promise, String words) {
        sentence = (promise == 0 ? "[terms: " : "[promise " + promise + ": ") + words + "] ";
    }

    static void due(String what, long got, long want) {
        tell(got == want, what + " answered " + got + ", due is " + want);
    }

    static void due(String what, boolean got, boolean want) {
        tell(got == want, what + " answered " + got + ", due is " + want);
    }

    static void due(String what, String got, String want) {
        tell(got.equals(want), what + " answered " + got + ", due is " + want);
    }

    static void holds(String what, boolean is) {
        tell(is, what);
    }

    /** Two long texts are alike; the first line in which they are not is told. */
    static void alike(String what, String got, String want) {
        if (got.equals(want)) {
            tell(true, what);
            return;
        }
        String[] lines = got.split("\n");
        String[] due = want.split("\n");
        int line = 0;
        while (line < lines.length && line < due.length && lines[line].equals(due[line])) {
            line++;
        }
        tell(false, what + ": got '" + (line < lines.length ? lines[line] : "nothing more") + "', due is '"
            + (line < due.length ? due[line] : "nothing more") + "'");
    }

    /** The call is taken: it throws nothing. */
    static void takes(String what, Call call) {
        due(what + " throws", thrownBy(call), "nothing");
    }

    /** The call throws just this exception, none below it, and no answer of any call is another one afterwards. */
    static void refuses(String what, Works works, Class<? extends RuntimeException> kind, Call call) {
        List<String> before = works.afterwards();
        due(what + " throws", thrownBy(call), kind.getName());
        same(what + " changes nothing", works.afterwards(), before);
    }

    /** No answer of any call is another one behind the question. */
    static void changesNothing(String what, Works works, Call question) {
        List<String> before = works.afterwards();
        question.make();
        same(what + " changes nothing", works.afterwards(), before);
    }

    static void noSuch(String what, Works works, Call call) {
        refuses(what, works, IndexOutOfBoundsException.class, call);
    }

    static void outOfRange(String what, Works works, Call call) {
        refuses(what, works, IllegalArgumentException.class, call);
    }

    static void notNow(String what, Works works, Call call) {
        refuses(what, works, IllegalStateException.class, call);
    }

    static void end() {
        System.out.println(looked + " looked at, " + wrong + " not as due");
        if (wrong != 0 || looked == 0) {
            System.exit(1);
        }
    }

    /** With a call more behind it, a row can have a line less. */
    private static void same(String what, List<String> got, List<String> before) {
        for (int row = 0; row < got.size(); row++) {
            boolean isAllOfIt = row == 0;
            alike(what, got.get(row), isAllOfIt ? before.get(row) : firstLines(before.get(row), got.get(row)));
        }
    }

    private static String firstLines(String text, String asManyAs) {
        int end = 0;
        for (int i = 0; i < asManyAs.length(); i++) {
            if (asManyAs.charAt(i) == '\n') {
                end = text.indexOf('\n', end) + 1;
            }
        }
        return text.substring(0, end);
    }

    private static String thrownBy(Call call) {
        try {
            call.make();
            return "nothing";
        } catch (RuntimeException e) {
            return e.getClass().getName();
        }
    }

    private static void tell(boolean isRight, String text) {
        looked++;
        if (!isRight) {
            wrong++;
            System.out.println(sentence + text);
        }
    }
}
