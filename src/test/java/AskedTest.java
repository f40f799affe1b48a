import java.util.function.IntConsumer;

/** Promises 22 to 41: the section of what is asked of a row. */
final class AskedTest {
    private static final int LEAST = Integer.MIN_VALUE;
    private static final int MOST = Integer.MAX_VALUE;

    private final Check c = new Check("AskedTest");

    public static void main(String[] args) {
        AskedTest t = new AskedTest();
        t.kindAndSize();
        t.at();
        t.tagAt();
        t.textAndTags();
        t.isRising();
        t.inversions();
        t.counts();
        t.wrongCounts();
        t.search();
        t.searchPart();
        t.last();
        t.nth();
        t.median();
        t.unlike();
        t.mode();
        t.hash();
        t.c.end();
    }

    private void noSuchRow(Risingbag x, String what, IntConsumer call) {
        int[] wrong = {-1, 6, LEAST, MOST};
        for (int row : wrong) {
            c.index(x, what + " of the row " + row, () -> call.accept(row));
        }
    }

    private void kindAndSize() {
        c.promise(22);
        Risingbag x = new Risingbag();
        for (int kind = 0; kind <= 4; kind++) {
            x.make(kind, kind, 6 * kind);
        }
        for (int kind = 0; kind <= 4; kind++) {
            c.same("kind", x.kind(kind), kind);
        }
        noSuchRow(x, "kind", row -> x.kind(row));
        c.promise(23);
        for (int kind = 0; kind <= 4; kind++) {
            c.same("size", x.size(kind), 6 * kind);
        }
        noSuchRow(x, "size", row -> x.size(row));
    }

    private void at() {
        c.promise(24);
        Risingbag x = Check.with(0, 0, MOST, LEAST, -9);
        c.same("at(0, 0)", x.at(0, 0), MOST);
        c.same("at(0, 1)", x.at(0, 1), LEAST);
        c.same("at(0, 2)", x.at(0, 2), -9);
        c.index(x, "at(0, 3)", () -> x.at(0, 3));
        c.index(x, "at(0, -1)", () -> x.at(0, -1));
        c.index(x, "at(1, 0)", () -> x.at(1, 0));
        noSuchRow(x, "at", row -> x.at(row, 0));
    }

    private void tagAt() {
        c.promise(25);
        Risingbag x = Check.with(0, 4, 1, 2);
        Check.label(x, 0, 98, 99);
        c.same("tagAt(0, 0)", x.tagAt(0, 0), 98);
        c.same("tagAt(0, 1)", x.tagAt(0, 1), 99);
        c.index(x, "tagAt(0, 2)", () -> x.tagAt(0, 2));
        c.index(x, "tagAt(0, -1)", () -> x.tagAt(0, -1));
        c.index(x, "the place goes ahead of the kind", () -> x.tagAt(1, 0));
        for (int kind = 0; kind < 4; kind++) {
            Risingbag y = Check.with(2, kind, 1);
            c.illegalState(y, "tagAt(2, 0)", () -> y.tagAt(2, 0));
        }
        noSuchRow(x, "tagAt", row -> x.tagAt(row, 0));
    }

    private void textAndTags() {
        c.promise(26);
        Risingbag x = Check.with(0, 1, LEAST, -1, 0, 10, MOST);
        c.same("text(0)", x.text(0), "[-2147483648, -1, 0, 10, 2147483647]");
        c.same("text(1)", x.text(1), "[]");
        x.add(1, 7);
        c.same("text(1)", x.text(1), "[7]");
        x.make(2, 0, 24);
        x.fill(2, 0, 24, LEAST);
        c.same("the longest", x.text(2), "[" + "-2147483648, ".repeat(23) + "-2147483648]");
        noSuchRow(x, "text", row -> x.text(row));
        c.promise(27);
        Check.put(x, 3, 4, 5, 6, 7);
        Check.label(x, 3, 0, 10, 99);
        c.same("tags(3)", x.tags(3), "[0, 10, 99]");
        c.same("text(3)", x.text(3), "[5, 6, 7]");
        x.make(3, 4, 0);
        c.same("tags(3)", x.tags(3), "[]");
        for (int kind = 0; kind < 4; kind++) {
            x.make(3, kind, 2);
            c.same("tags of kind " + kind, x.tags(3), "-");
        }
        noSuchRow(x, "tags", row -> x.tags(row));
    }

    private void isRising() {
        c.promise(28);
        Risingbag x = Check.with(0, 0, LEAST, -1, -1, MOST);
        c.same("rising", x.isRising(0), true);
        x.add(0, MOST - 1);
        c.same("not at the end", x.isRising(0), false);
        Check.put(x, 0, 0, MOST, LEAST, 0);
        c.same("not at the start", x.isRising(0), false);
        c.same("nothing", x.isRising(1), true);
        x.add(1, 5);
        c.same("one", x.isRising(1), true);
        noSuchRow(x, "isRising", row -> x.isRising(row));
    }

    private void inversions() {
        c.promise(29);
        Risingbag x = Check.with(0, 0, 3, MOST, 3, LEAST, 3, 1);
        c.same("inversions", x.inversions(0), 9);
        c.same("of nothing", x.inversions(1), 0);
        x.make(2, 0, 24);
        x.ramp(2, 24, -1, 100);
        c.same("all fall", x.inversions(2), 276);
        noSuchRow(x, "inversions", row -> x.inversions(row));
        c.promise(30);
        int[] due = {0, 0, 1, 3, 1, 4};
        for (int place = 0; place < 6; place++) {
            c.same("inversionsAt(0, " + place + ")", x.inversionsAt(0, place), due[place]);
        }
        Risingbag y = Check.with(0, 0, 3, 2, 1);
        c.index(y, "inversionsAt(0, 3)", () -> y.inversionsAt(0, 3));
        c.index(y, "inversionsAt(0, -1)", () -> y.inversionsAt(0, -1));
        c.index(y, "inversionsAt(1, 0)", () -> y.inversionsAt(1, 0));
        noSuchRow(y, "inversionsAt", row -> y.inversionsAt(row, 0));
    }

    private void counts() {
        Risingbag x = Check.with(0, 1, 5, LEAST, 7, MOST, 5, MOST);
        int[] values = {LEAST, 0, 5, 6, 7, MOST};
        int[] smaller = {0, 1, 1, 3, 3, 4};
        int[] likes = {1, 0, 2, 0, 1, 2};
        for (int k = 0; k < values.length; k++) {
            c.promise(31);
            c.same("smaller(0, " + values[k] + ")", x.smaller(0, values[k]), smaller[k]);
            c.promise(32);
            c.same("likes(0, " + values[k] + ")", x.likes(0, values[k]), likes[k]);
            c.promise(33);
            c.same("greater(0, " + values[k] + ")", x.greater(0, values[k]), 6 - smaller[k] - likes[k]);
        }
        c.same("of nothing", x.smaller(1, 0) + x.likes(1, 0) + x.greater(1, 0), 0);
    }

    private void wrongCounts() {
        int[][] wrong = {{2, -129}, {2, 128}, {3, -1}, {3, 256}, {4, -1000}, {4, 1000}};
        for (int[] pair : wrong) {
            Risingbag x = Check.with(0, pair[0], 0, 0, 0);
            c.promise(31);
            c.argument(x, "smaller(0, " + pair[1] + ")", () -> x.smaller(0, pair[1]));
            c.promise(32);
            c.argument(x, "likes(0, " + pair[1] + ")", () -> x.likes(0, pair[1]));
            c.promise(33);
            c.argument(x, "greater(0, " + pair[1] + ")", () -> x.greater(0, pair[1]));
        }
        int[][] let = {{2, -128}, {2, 127}, {3, 0}, {3, 255}, {4, -999}, {4, 999}};
        for (int[] pair : let) {
            Risingbag x = Check.with(0, pair[0], 0, 0, 0);
            int all = x.smaller(0, pair[1]) + x.likes(0, pair[1]) + x.greater(0, pair[1]);
            c.same("all of " + pair[1], all, 3);
        }
        c.promise(31);
        Risingbag first = Check.with(0, 4, 1);
        noSuchRow(first, "smaller", row -> first.smaller(row, 1000));
        c.promise(32);
        Risingbag second = Check.with(0, 4, 1);
        noSuchRow(second, "likes", row -> second.likes(row, 1000));
        c.promise(33);
        Risingbag third = Check.with(0, 4, 1);
        noSuchRow(third, "greater", row -> third.greater(row, 1000));
    }

    private void search() {
        c.promise(34);
        Risingbag x = Check.with(0, 0, LEAST, -5, 2, 2, 2, MOST);
        int[][] due = {{LEAST, 0}, {-5, 1}, {2, 2}, {MOST, 5}, {LEAST + 1, -2}, {-4, -3}, {3, -6}, {MOST - 1, -6}};
        for (int[] pair : due) {
            c.same("search(0, " + pair[0] + ")", x.search(0, pair[0]), pair[1]);
        }
        c.same("of nothing", x.search(1, 4), -1);
        Check.put(x, 2, 3, 255, 255);
        c.same("ahead of all", x.search(2, 254), -1);
        Check.put(x, 2, 3, 0, 0);
        c.same("behind all", x.search(2, 255), -3);
        Check.put(x, 3, 4, 2, 1);
        c.illegalState(x, "search(3, 2)", () -> x.search(3, 2));
        c.argument(x, "search(3, 1000)", () -> x.search(3, 1000));
        c.argument(x, "search(2, 256)", () -> x.search(2, 256));
        c.argument(x, "search(2, -1)", () -> x.search(2, -1));
        noSuchRow(x, "search", row -> x.search(row, 0));
    }

    private void searchPart() {
        c.promise(35);
        Risingbag x = Check.with(0, 4, 1, 3, 3, 3, 5, 7);
        c.same("searchPart(0, 0, 6, 3)", x.searchPart(0, 0, 6, 3), 1);
        c.same("searchPart(0, 2, 5, 3)", x.searchPart(0, 2, 5, 3), 2);
        c.same("searchPart(0, 2, 5, 5)", x.searchPart(0, 2, 5, 5), 4);
        c.same("just behind the part", x.searchPart(0, 2, 4, 5), -5);
        c.same("below the part", x.searchPart(0, 2, 5, 1), -3);
        c.same("above the part", x.searchPart(0, 2, 5, 7), -6);
        c.same("within the part", x.searchPart(0, 2, 5, 4), -5);
        c.same("in an empty part", x.searchPart(0, 3, 3, 3), -4);
        c.same("in an empty part at the end", x.searchPart(0, 6, 6, 9), -7);
        c.same("in an empty row", x.searchPart(1, 0, 0, 9), -1);
        c.same("from above to", x.searchPart(0, 3, 2, 3), -9999);
        c.same("from below 0", x.searchPart(0, -1, 2, 3), -9999);
        c.same("to too far", x.searchPart(0, 0, 7, 3), -9999);
        c.same("beyond", x.searchPart(0, 7, 7, 3), -9999);
        c.same("far beyond", x.searchPart(0, LEAST, MOST, 3), -9999);
        c.same("this is no refusal that is counted", x.house(4), 0);
        Check.put(x, 2, 4, 9, 1, 2, 3);
        c.illegalState(x, "the whole row must rise", () -> x.searchPart(2, 1, 4, 2));
        c.illegalState(x, "searchPart(2, 3, 2, 2)", () -> x.searchPart(2, 3, 2, 2));
        c.argument(x, "searchPart(2, 3, 2, 1000)", () -> x.searchPart(2, 3, 2, 1000));
        c.argument(x, "searchPart(0, 0, 1, -1000)", () -> x.searchPart(0, 0, 1, -1000));
        noSuchRow(x, "searchPart", row -> x.searchPart(row, 0, 0, 1000));
    }

    private void last() {
        c.promise(36);
        Risingbag x = Check.with(0, 2, -128, 3, 3, 3, 127, 127);
        c.same("last(0, -128)", x.last(0, -128), 0);
        c.same("last(0, 3)", x.last(0, 3), 3);
        c.same("last(0, 127)", x.last(0, 127), 5);
        c.same("last(0, 4)", x.last(0, 4), -1);
        c.same("of nothing", x.last(1, 4), -1);
        x.resize(0, 5);
        c.same("where more have been", x.last(0, 127), 4);
        x.resize(0, 4);
        c.same("that has gone", x.last(0, 127), -1);
        Check.put(x, 2, 2, 2, 1);
        c.illegalState(x, "last(2, 2)", () -> x.last(2, 2));
        c.argument(x, "last(2, 128)", () -> x.last(2, 128));
        c.argument(x, "last(0, -129)", () -> x.last(0, -129));
        noSuchRow(x, "last", row -> x.last(row, 0));
    }

    private void nth() {
        c.promise(37);
        Risingbag x = Check.with(0, 1, MOST, 4, LEAST, 4, -1);
        int[] due = {LEAST, -1, 4, 4, MOST};
        for (int n = 0; n < 5; n++) {
            c.same("nth(0, " + n + ")", x.nth(0, n), due[n]);
        }
        c.same("the row stays", x.text(0), "[2147483647, 4, -2147483648, 4, -1]");
        c.same("it is no sorting", x.house(3), 0);
        c.index(x, "nth(0, 5)", () -> x.nth(0, 5));
        c.index(x, "nth(0, -1)", () -> x.nth(0, -1));
        c.index(x, "nth(1, 0)", () -> x.nth(1, 0));
        noSuchRow(x, "nth", row -> x.nth(row, 0));
    }

    private void median() {
        c.promise(38);
        Risingbag x = Check.with(0, 0, 9, 1, 5);
        c.same("of three", x.median(0), 5);
        x.add(0, 6);
        c.same("of four", x.median(0), 5);
        x.add(0, 7);
        c.same("of five", x.median(0), 6);
        c.same("the row stays", x.text(0), "[9, 1, 5, 6, 7]");
        Check.put(x, 1, 0, 8);
        c.same("of one", x.median(1), 8);
        Check.put(x, 1, 0, 8, 2);
        c.same("of two", x.median(1), 2);
        x.make(2, 0, 24);
        x.ramp(2, 123, -1, 1000);
        c.same("of 24", x.median(2), 111);
        c.illegalState(x, "of none", () -> x.median(3));
        noSuchRow(x, "median", row -> x.median(row));
    }

    private void unlike() {
        c.promise(39);
        Risingbag x = Check.with(0, 4, 2, 1, 2, 3, 1, 2);
        Check.label(x, 0, 1, 2, 3, 4, 5, 6);
        c.same("unlike", x.unlike(0), 3);
        c.same("the row stays", x.text(0), "[2, 1, 2, 3, 1, 2]");
        c.same("of nothing", x.unlike(1), 0);
        x.make(1, 0, 24);
        c.same("of all the same", x.unlike(1), 1);
        x.ramp(1, 0, 1, 99);
        c.same("of all unlike", x.unlike(1), 24);
        noSuchRow(x, "unlike", row -> x.unlike(row));
    }

    private void mode() {
        c.promise(40);
        Risingbag x = Check.with(0, 1, 5, 3, 5, 3, 4);
        c.same("the smallest of several", x.mode(0), 3);
        x.add(0, 5);
        c.same("mode", x.mode(0), 5);
        c.same("the row stays", x.text(0), "[5, 3, 5, 3, 4, 5]");
        Check.put(x, 1, 1, MOST, LEAST);
        c.same("the smallest of all", x.mode(1), LEAST);
        c.illegalState(x, "of none", () -> x.mode(2));
        noSuchRow(x, "mode", row -> x.mode(row));
    }

    private void hash() {
        c.promise(41);
        Risingbag x = Check.with(0, 0, 2, -3);
        c.same("hash", x.hash(0), (31 + 2) * 31 - 3);
        c.same("of nothing", x.hash(1), 1);
        int[] wide = {MOST, LEAST, MOST, 77, -1, MOST, LEAST};
        Check.put(x, 1, 0, wide);
        c.same("it wraps around", x.hash(1), java.util.Arrays.hashCode(wide));
        for (int kind = 1; kind <= 4; kind++) {
            x.make(2, kind, 1);
            c.same("of kind " + kind, x.hash(2), -9);
        }
        c.same("this is no refusal that is counted", x.house(4), 0);
        noSuchRow(x, "hash", row -> x.hash(row));
    }
}
