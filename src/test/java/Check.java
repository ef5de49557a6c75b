/** Counts what is not as due, and tells of it; every test ends with end(). */
final class Check {
    private static int looked = 0;
    private static int wrong = 0;

    private Check() {
    }

    interface Call {
        void make();
    }

    static void due(String what, long got, long want) {
        tell(got == want, what + " answered " + got + ", due is " + want);
    }

    static void due(String what, boolean got, boolean want) {
        tell(got == want, what + " answered " + got + ", due is " + want);
    }

    static void due(String what, String got, String want) {
        tell(got.equals(want), what + " answered " + got + ", due is " + want);
    }

    static void holds(String what, boolean is) {
        tell(is, what);
    }

    /** The call throws just this exception, none below it, and changes nothing that can be asked for. */
    static void refuses(String what, Voucherworks works, Class<? extends RuntimeException> kind, Call call) {
        String before = Snapshot.of(new Real(works));
        String got = "nothing";
        try {
            call.make();
        } catch (RuntimeException e) {
            got = e.getClass().getName();
        }
        due(what + " throws", got, kind.getName());
        due(what + " changes nothing", Snapshot.of(new Real(works)), before);
    }

    static void noSuch(String what, Voucherworks works, Call call) {
        refuses(what, works, IndexOutOfBoundsException.class, call);
    }

    static void outOfRange(String what, Voucherworks works, Call call) {
        refuses(what, works, IllegalArgumentException.class, call);
    }

    static void notNow(String what, Voucherworks works, Call call) {
        refuses(what, works, IllegalStateException.class, call);
    }

    static void end() {
        System.out.println(looked + " looked at, " + wrong + " not as due");
        if (wrong != 0 || looked == 0) {
            System.exit(1);
        }
    }

    private static void tell(boolean isRight, String text) {
        looked++;
        if (!isRight) {
            wrong++;
            System.out.println(text);
        }
    }
}
