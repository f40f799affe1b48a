/** Promises 10 to 14: the section of sorting. */
final class SortingTest {
    private static final int LEAST = Integer.MIN_VALUE;
    private static final int MOST = Integer.MAX_VALUE;

    private final Check c = new Check("SortingTest");

    public static void main(String[] args) {
        SortingTest t = new SortingTest();
        t.sort();
        t.sortPart();
        t.sortHalves();
        t.sortBy();
        t.rise();
        t.c.end();
    }

    private void sort() {
        c.promise(10);
        for (int kind = 0; kind <= 4; kind++) {
            Risingbag x = Check.with(kind, kind, 5, 3, 9, 3, 1);
            c.same("sort", x.sort(kind), 7);
            c.same("text", x.text(kind), "[1, 3, 3, 5, 9]");
            c.same("sort again", x.sort(kind), 0);
            c.same("sorted twice", x.house(3), 2);
        }
        Risingbag x = Check.with(0, 1, MOST, LEAST, 0, MOST, -1, LEAST);
        c.same("sort of wide values", x.sort(0), 9);
        c.same("text", x.text(0), "[" + LEAST + ", " + LEAST + ", -1, 0, " + MOST + ", " + MOST + "]");
        Check.put(x, 1, 4, 2, 1, 2, 1, 2);
        Check.label(x, 1, 9, 8, 7, 6, 5);
        x.sort(1);
        c.same("like pairs keep their sequence", x.tags(1), "[8, 6, 9, 7, 5]");
        c.same("sort of nothing", x.sort(2), 0);
        c.same("which counts too", x.house(3), 3);
        c.index(x, "sort(6)", () -> x.sort(6));
        c.index(x, "sort(-1)", () -> x.sort(-1));
    }

    private void sortPart() {
        c.promise(11);
        Risingbag x = Check.with(0, 4, 9, 7, 8, 7, 1);
        Check.label(x, 0, 1, 2, 3, 4, 5);
        c.same("sortPart(0, 1, 4)", x.sortPart(0, 1, 4), 7);
        c.same("text", x.text(0), "[9, 7, 7, 8, 1]");
        c.same("tags", x.tags(0), "[1, 2, 4, 3, 5]");
        c.same("an empty part at the end", x.sortPart(0, 5, 5), 7);
        c.same("an empty part at the start", x.sortPart(0, 0, 0), 7);
        c.same("sorted", x.house(3), 3);
        String things = Check.things(x);
        c.same("sortPart(0, 3, 2)", x.sortPart(0, 3, 2), -9);
        c.same("sortPart(0, -1, 2)", x.sortPart(0, -1, 2), -9);
        c.same("sortPart(0, 0, 6)", x.sortPart(0, 0, 6), -9);
        c.same("sortPart(0, 6, 6)", x.sortPart(0, 6, 6), -9);
        c.same("sortPart(0, most, least)", x.sortPart(0, MOST, LEAST), -9);
        c.same("refusals", x.house(4), 5);
        c.same("a refusal is no sorting", x.house(3), 3);
        c.same("nothing changes", Check.things(x), things);
        c.same("the whole", x.sortPart(0, 0, 5), 0);
        c.index(x, "sortPart(6, 2, 1)", () -> x.sortPart(6, 2, 1));
        c.index(x, "sortPart(-1, 0, 0)", () -> x.sortPart(-1, 0, 0));
    }

    private void sortHalves() {
        c.promise(12);
        Risingbag x = Check.with(0, 2, 5, 4, 3, 2, 1);
        x.copy(0, 1);
        x.copy(0, 2);
        c.same("sortHalves(0, 2)", x.sortHalves(0, 2), 6);
        c.same("text", x.text(0), "[4, 5, 1, 2, 3]");
        c.same("sortHalves(1, 0)", x.sortHalves(1, 0), 0);
        c.same("text", x.text(1), "[1, 2, 3, 4, 5]");
        c.same("sortHalves(2, 5)", x.sortHalves(2, 5), 0);
        c.same("sorted", x.house(3), 3);
        c.same("sortHalves(0, 6)", x.sortHalves(0, 6), -9);
        c.same("sortHalves(0, -1)", x.sortHalves(0, -1), -9);
        c.same("refusals", x.house(4), 2);
        c.same("a refusal is no sorting", x.house(3), 3);
        c.same("nothing changes", x.text(0), "[4, 5, 1, 2, 3]");
        c.same("of nothing", x.sortHalves(3, 0), 0);
        Check.put(x, 4, 4, 2, 2, 1, 1);
        Check.label(x, 4, 4, 3, 2, 1);
        c.same("sortHalves(4, 3)", x.sortHalves(4, 3), 2);
        c.same("tags", x.tags(4), "[2, 4, 3, 1]");
        c.index(x, "sortHalves(6, -1)", () -> x.sortHalves(6, -1));
        c.index(x, "sortHalves(-1, 0)", () -> x.sortHalves(-1, 0));
    }

    private void sortBy() {
        c.promise(13);
        String[] texts = {
            "[-21, -7, 11, 30, 30, 999]", "[999, 30, 30, 11, -7, -21]", "[11, 30, 30, -7, -21, 999]",
            "[999, -7, -21, 30, 30, 11]", "[30, 30, -21, 11, -7, 999]"};
        String[] tags = {
            "[50, 50, 0, 2, 1, 99]", "[99, 2, 1, 0, 50, 50]", "[0, 1, 2, 50, 50, 99]",
            "[99, 50, 50, 2, 1, 0]", "[2, 1, 50, 0, 50, 99]"};
        int[] due = {0, 14, 7, 8, 7};
        for (int way = 0; way <= 4; way++) {
            Risingbag x = Check.with(5, 4, -7, 30, -21, 30, 999, 11);
            Check.label(x, 5, 50, 2, 50, 1, 99, 0);
            c.same("sortBy(5, " + way + ")", x.sortBy(5, way), due[way]);
            c.same("text", x.text(5), texts[way]);
            c.same("tags", x.tags(5), tags[way]);
            c.same("sorted", x.house(3), 1);
        }
        Risingbag x = Check.with(0, 4, 2, 1);
        c.same("of nothing", x.make(1, 4, 0) + x.sortBy(1, 3), 0);
        c.argument(x, "sortBy(0, 5)", () -> x.sortBy(0, 5));
        c.argument(x, "sortBy(0, -1)", () -> x.sortBy(0, -1));
        c.index(x, "sortBy(6, 5)", () -> x.sortBy(6, 5));
        c.index(x, "sortBy(-1, 0)", () -> x.sortBy(-1, 0));
        for (int kind = 0; kind < 4; kind++) {
            Risingbag y = Check.with(2, kind, 3, 1);
            c.illegalState(y, "sortBy(2, 0)", () -> y.sortBy(2, 0));
            c.argument(y, "the argument goes first", () -> y.sortBy(2, 5));
        }
    }

    private void rise() {
        c.promise(14);
        Risingbag x = Check.with(0, 4, 1, 3, 3, 2, 0);
        Check.label(x, 0, 1, 2, 3, 4, 5);
        c.same("rise(0)", x.rise(0), 2);
        c.same("text", x.text(0), "[1, 3, 2, 3, 0]");
        c.same("tags", x.tags(0), "[1, 2, 4, 3, 5]");
        c.same("rise(0)", x.rise(0), 1);
        c.same("rise(0)", x.rise(0), 3);
        c.same("rise(0)", x.rise(0), 2);
        c.same("rise(0)", x.rise(0), 1);
        c.same("rise(0)", x.rise(0), 0);
        c.same("text", x.text(0), "[0, 1, 2, 3, 3]");
        c.same("rise(0)", x.rise(0), -1);
        c.same("text", x.text(0), "[0, 1, 2, 3, 3]");
        c.same("rise of nothing", x.rise(1), -1);
        Check.put(x, 2, 0, MOST, LEAST);
        c.same("rise of the widest fall", x.rise(2), 0);
        c.same("it is no sorting", x.house(3), 0);
        c.same("and no refusal", x.house(4), 0);
        c.index(x, "rise(6)", () -> x.rise(6));
        c.index(x, "rise(-1)", () -> x.rise(-1));
    }
}
