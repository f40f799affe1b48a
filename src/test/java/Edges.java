import java.util.function.Supplier;

/**
 * What the tests of the document's bounds share. Each case begins with an object of its own, so that none is
 * used for more than the 512 calls that the document gives it.
 */
abstract class Edges {
    static final int LEAST = Integer.MIN_VALUE;
    static final int MOST = Integer.MAX_VALUE;
    static final int[] LEAST_OF = {LEAST, LEAST, -128, 0, -999};
    static final int[] MOST_OF = {MOST, MOST, 127, 255, 999};

    static final String ROW = "- `row`: the ROW";
    static final String NO_ROW = "Throws `IndexOutOfBoundsException` if there is no such ROW";
    static final String NO_PLACE = NO_ROW + ", or no such place in it";
    static final String NO_VALUE = "Throws `IllegalArgumentException` if the KIND can not have that VALUE";
    static final String NO_PAIRS = "Throws `IllegalStateException` if the KIND is not 4";
    static final String NOT_RISING = "Throws `IllegalStateException` if the ROW is not RISING";

    final Check c;
    private int promise;

    Edges(Check c) {
        this.c = c;
    }

    interface RowCall {
        Object on(Risingbag x, int row);
    }

    interface PlaceCall {
        Object on(Risingbag x, int row, int place);
    }

    interface ValueCall {
        Object on(Risingbag x, int row, int value);
    }

    interface PartCall {
        Object on(Risingbag x, int row, int from, int to);
    }

    void promise(int number) {
        promise = number;
        c.promise(number);
    }

    void sentences(String... words) {
        c.sentences(promise, words);
    }

    /** A row of these values where 24 others have been: who looks behind its end meets them. */
    static Risingbag put(Risingbag x, int row, int kind, int... values) {
        x.make(row, kind, 24);
        x.fill(row, 0, 24, 77);
        for (int k = 0; kind == 4 && k < 24; k++) {
            x.tag(row, k, 66);
        }
        x.resize(row, values.length);
        for (int k = 0; k < values.length; k++) {
            x.set(row, k, values[k]);
            if (kind == 4) {
                x.tag(row, k, 10 + k);
            }
        }
        return x;
    }

    static Risingbag with(int kind, int... values) {
        return put(new Risingbag(), 2, kind, values);
    }

    /** Row 2 has so many things, all 0, where others have been. */
    static Risingbag zeros(int kind, int many) {
        return with(kind, new int[many]);
    }

    /** All six rows are the same. */
    static Risingbag six(int kind, int... values) {
        Risingbag x = put(new Risingbag(), 0, kind, values);
        for (int row = 1; row < 6; row++) {
            x.copy(0, row);
        }
        return x;
    }

    /** So many numbers from the first on, each greater by the step. */
    static int[] steps(int many, int first, int step) {
        int[] numbers = new int[many];
        for (int k = 0; k < many; k++) {
            numbers[k] = first + step * k;
        }
        return numbers;
    }

    static String list(int... values) {
        return java.util.Arrays.toString(values);
    }

    static String same(int many, int value) {
        int[] all = new int[many];
        java.util.Arrays.fill(all, value);
        return list(all);
    }

    /** The call is let for the rows 0 to 5, and for no other number. */
    void rows(Supplier<Risingbag> made, RowCall call) {
        for (int row : new int[] {0, 1, 2, 3, 4, 5}) {
            Risingbag x = made.get();
            c.same("row " + row, Check.thrownBy(() -> call.on(x, row)), "nothing");
        }
        for (int row : new int[] {-1, 6, LEAST, MOST}) {
            Risingbag x = made.get();
            c.index(x, "row " + row, () -> call.on(x, row));
        }
    }

    /** Of six like rows the call answers this for each, and changes that one to this, and no other. */
    void changes(Supplier<Risingbag> made, Object due, String then, RowCall call) {
        for (int row = 0; row < 6; row++) {
            Risingbag x = made.get();
            String before = Check.row(x, row);
            c.same("row " + row, call.on(x, row), due);
            for (int other = 0; other < 6; other++) {
                String expected = other == row ? then : before;
                c.same("row " + other + " after row " + row, Check.row(x, other), expected);
            }
        }
    }

    /** Of a row of these values, whichever it is, the call answers this, and changes nothing. */
    void tells(int kind, int[] values, Object due, RowCall call) {
        for (int row : new int[] {0, 1, 2, 3, 4, 5}) {
            Risingbag x = put(new Risingbag(), row, kind, values);
            c.asked(x, "of " + list(values) + " as row " + row, due, () -> call.on(x, row));
        }
    }

    /** The call is let for the places that the row has, and for no other number. */
    void places(int kind, PlaceCall call) {
        for (int many : new int[] {0, 1, 3, 23, 24}) {
            for (int place : new int[] {LEAST, -24, -1, 0, 1, many - 1, many, many + 1, 23, 24, MOST}) {
                Risingbag x = zeros(kind, many);
                String what = "place " + place + " of " + many;
                if (place >= 0 && place < many) {
                    c.same(what, Check.thrownBy(() -> call.on(x, 2, place)), "nothing");
                } else {
                    c.index(x, what, () -> call.on(x, 2, place));
                }
            }
        }
    }

    /** The call is let for the values that the kind can have, and for no other number. */
    void values(int many, ValueCall call) {
        for (int kind = 0; kind <= 4; kind++) {
            int least = LEAST_OF[kind];
            int most = MOST_OF[kind];
            for (int value : new int[] {LEAST, least - 1, least, 0, most, most + 1, MOST}) {
                Risingbag x = zeros(kind, many);
                String what = "value " + value + " of kind " + kind;
                if (value >= least && value <= most) {
                    c.same(what, Check.thrownBy(() -> call.on(x, 2, value)), "nothing");
                } else {
                    c.argument(x, what, () -> call.on(x, 2, value));
                }
            }
        }
    }

    /** The call is let for pairs, and for no other kind. */
    void pairsAlone(RowCall call) {
        for (int kind = 0; kind <= 3; kind++) {
            Risingbag x = with(kind, 3, 1, 2);
            c.illegalState(x, "kind " + kind, () -> call.on(x, 2));
        }
        Risingbag x = with(4, 3, 1, 2);
        c.same("kind 4", Check.thrownBy(() -> call.on(x, 2)), "nothing");
    }

    /** The call is let for rows that rise, also those that are empty, have one thing, or like ones. */
    void risingAlone(int kind, RowCall call) {
        int[][] rising = {{}, {5}, {5, 5}, {1, 2}, {1, 2, 2, 3}, steps(24, 1, 1), new int[24]};
        for (int[] values : rising) {
            Risingbag x = with(kind, values);
            c.same("of " + list(values), Check.thrownBy(() -> call.on(x, 2)), "nothing");
        }
        int[] late = steps(24, 1, 1);
        late[23] = 22;
        int[][] falling = {{2, 1}, {2, 1, 3, 4}, {1, 2, 4, 3}, late, steps(24, 30, -1)};
        for (int[] values : falling) {
            Risingbag x = with(kind, values);
            c.illegalState(x, "of " + list(values), () -> call.on(x, 2));
        }
    }

    /** Whether a row of so many things has that part. */
    static boolean isPart(int many, int from, int to) {
        return from >= 0 && from <= to && to <= many;
    }

    /** The call is refused, with nothing changed, for each part that the row does not have, and let for each other. */
    void parts(int kind, PartCall call) {
        for (int many : new int[] {0, 1, 3, 24}) {
            for (int from : bounds(many)) {
                for (int to : bounds(many)) {
                    Risingbag x = with(kind, steps(many, 50, -1));
                    String what = "from " + from + " to " + to + " of " + many;
                    if (isPart(many, from, to)) {
                        c.same(what + " is let", (int) call.on(x, 2, from, to) >= 0, true);
                        c.same(what + " is not counted as refused", x.house(4), 0);
                    } else {
                        c.refused(x, what, () -> call.on(x, 2, from, to));
                    }
                }
            }
        }
    }

    static int[] bounds(int many) {
        return new int[] {LEAST, -1, 0, 1, many - 1, many, many + 1, MOST};
    }
}
