import java.util.Objects;

/** What the tests share: counts the answers that are due and prints those that are not. */
final class Check {
    private final String test;
    private int promise;
    private int passed;
    private int failed;

    Check(String test) {
        this.test = test;
    }

    void promise(int number) {
        promise = number;
    }

    void same(String what, Object got, Object due) {
        if (Objects.equals(got, due)) {
            passed++;
        } else {
            failed++;
            System.out.println(test + ", promise " + promise + ": " + what + " answered " + got + ", due is " + due);
        }
    }

    /** The call throws just this exception, and everything that can be asked answers as before. */
    void thrown(Risingbag x, String what, Class<? extends RuntimeException> due, Runnable call) {
        String before = state(x);
        same(what, thrownBy(call), due.getSimpleName());
        same("the state after " + what, state(x), before);
    }

    void index(Risingbag x, String what, Runnable call) {
        thrown(x, what, IndexOutOfBoundsException.class, call);
    }

    void argument(Risingbag x, String what, Runnable call) {
        thrown(x, what, IllegalArgumentException.class, call);
    }

    void illegalState(Risingbag x, String what, Runnable call) {
        thrown(x, what, IllegalStateException.class, call);
    }

    static String thrownBy(Runnable call) {
        try {
            call.run();
            return "nothing";
        } catch (RuntimeException e) {
            return e.getClass().getSimpleName();
        }
    }

    static String things(Risingbag x) {
        StringBuilder all = new StringBuilder();
        for (int row = 0; row < 6; row++) {
            all.append(x.kind(row)).append(x.text(row)).append(x.tags(row)).append(' ');
        }
        return all.toString();
    }

    static String state(Risingbag x) {
        StringBuilder all = new StringBuilder(things(x));
        for (int what = 0; what <= 5; what++) {
            all.append(x.house(what)).append(' ');
        }
        return all.append(x.digest()).toString();
    }

    /** A new object with one row of these values. */
    static Risingbag with(int row, int kind, int... values) {
        Risingbag x = new Risingbag();
        put(x, row, kind, values);
        return x;
    }

    static void put(Risingbag x, int row, int kind, int... values) {
        x.make(row, kind, values.length);
        for (int k = 0; k < values.length; k++) {
            x.set(row, k, values[k]);
        }
    }

    static void label(Risingbag x, int row, int... tags) {
        for (int k = 0; k < tags.length; k++) {
            x.tag(row, k, tags[k]);
        }
    }

    void end() {
        System.out.println(test + ": " + passed + " passed, " + failed + " failed");
        if (failed != 0 || passed == 0) {
            System.exit(1);
        }
    }
}
