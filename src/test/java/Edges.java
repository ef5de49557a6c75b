/** Looks at both sides of both ends of what a call takes, each value on an object of its own. */
final class Edges {
    private Edges() {
    }

    interface Maker {
        Works make();
    }

    interface Call {
        void on(Works x, int value);
    }

    static void range(String name, Maker maker, Call call, int low, int high) {
        takes(name, maker, call, low, low + 1, high - 1, high);
        outOfRange(name, maker, call, low - 1, high + 1, Integer.MIN_VALUE, Integer.MAX_VALUE);
    }

    static void places(String name, Maker maker, Call call, int count) {
        takes(name, maker, call, 0, count - 1);
        noSuch(name, maker, call, -1, count, Integer.MIN_VALUE, Integer.MAX_VALUE);
    }

    static void takes(String name, Maker maker, Call call, int... values) {
        for (int value : values) {
            Works x = maker.make();
            Check.takes(name + " " + value, () -> call.on(x, value));
        }
    }

    static void outOfRange(String name, Maker maker, Call call, int... values) {
        for (int value : values) {
            Works x = maker.make();
            Check.outOfRange(name + " " + value, x, () -> call.on(x, value));
        }
    }

    static void noSuch(String name, Maker maker, Call call, int... values) {
        for (int value : values) {
            Works x = maker.make();
            Check.noSuch(name + " " + value, x, () -> call.on(x, value));
        }
    }
}
