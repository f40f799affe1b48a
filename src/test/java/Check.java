import java.util.Arrays;
import java.util.Objects;
import java.util.Set;
import java.util.TreeSet;
import java.util.function.Supplier;

/** What the tests share: counts the answers that are due and prints those that are not. */
final class Check {
    private final String test;
    private final Set<String> sentences = new TreeSet<>();
    private int promise;
    private String sentence = "";
    private int passed;
    private int failed;

    Check(String test) {
        this.test = test;
    }

    void promise(int number) {
        promise = number;
        sentence = "";
    }

    /** What comes next tests these sentences of the document, below the promise (0: of its description). */
    void sentences(int number, String... words) {
        promise(number);
        for (String one : words) {
            sentences.add(number + ": " + one);
        }
        sentence = " (" + words[0] + ")";
    }

    Set<String> sentences() {
        return sentences;
    }

    void same(String what, Object got, Object due) {
        if (Objects.equals(got, due)) {
            passed++;
        } else {
            failed++;
            System.out.println(test + ", promise " + promise + sentence + ": " + what + " answered " + got
                + ", due is " + due);
        }
    }

    /** The call throws just this exception, and everything that can be asked answers as before. */
    void thrown(Risingbag x, String what, Class<? extends RuntimeException> due, Runnable call) {
        String before = state(x);
        same(what, thrownBy(call), due.getSimpleName());
        same("the state after " + what, state(x), before);
    }

    void index(Risingbag x, String what, Runnable call) {
        thrown(x, what, IndexOutOfBoundsException.class, call);
    }

    void argument(Risingbag x, String what, Runnable call) {
        thrown(x, what, IllegalArgumentException.class, call);
    }

    void illegalState(Risingbag x, String what, Runnable call) {
        thrown(x, what, IllegalStateException.class, call);
    }

    /** The call answers -9, and nothing changes by it but how often something was refused. */
    void refused(Risingbag x, String what, Supplier<?> call) {
        String things = things(x);
        int[] house = house(x);
        same(what, call.get(), -9);
        house[4]++;
        same("the things after " + what, things(x), things);
        same("the house after " + what, Arrays.toString(house(x)), Arrays.toString(house));
    }

    /** The call answers just this, and everything that can be asked answers as before. */
    void asked(Risingbag x, String what, Object due, Supplier<?> call) {
        String before = state(x);
        same(what, call.get(), due);
        same("the state after " + what, state(x), before);
    }

    static String thrownBy(Runnable call) {
        try {
            call.run();
            return "nothing";
        } catch (RuntimeException e) {
            return e.getClass().getSimpleName();
        }
    }

    static String row(Risingbag x, int row) {
        return x.kind(row) + x.text(row) + x.tags(row);
    }

    static String things(Risingbag x) {
        StringBuilder all = new StringBuilder();
        for (int row = 0; row < 6; row++) {
            all.append(row(x, row)).append(' ');
        }
        return all.toString();
    }

    static int[] house(Risingbag x) {
        int[] house = new int[6];
        for (int what = 0; what < 6; what++) {
            house[what] = x.house(what);
        }
        return house;
    }

    static String state(Risingbag x) {
        return things(x) + Arrays.toString(house(x)) + x.digest();
    }

    /** A new object with one row of these values. */
    static Risingbag with(int row, int kind, int... values) {
        Risingbag x = new Risingbag();
        put(x, row, kind, values);
        return x;
    }

    static void put(Risingbag x, int row, int kind, int... values) {
        x.make(row, kind, values.length);
        for (int k = 0; k < values.length; k++) {
            x.set(row, k, values[k]);
        }
    }

    static void label(Risingbag x, int row, int... tags) {
        for (int k = 0; k < tags.length; k++) {
            x.tag(row, k, tags[k]);
        }
    }

    void end() {
        System.out.println(test + ": " + passed + " passed, " + failed + " failed");
        if (failed != 0 || passed == 0) {
            System.exit(1);
        }
    }
}
