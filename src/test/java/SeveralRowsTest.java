/** Promises 15 to 21: the section of several rows. */
final class SeveralRowsTest {
    private static final int LEAST = Integer.MIN_VALUE;
    private static final int MOST = Integer.MAX_VALUE;

    private final Check c = new Check("SeveralRowsTest");

    public static void main(String[] args) {
        SeveralRowsTest t = new SeveralRowsTest();
        t.copy();
        t.copyPart();
        t.merge();
        t.mergeRefused();
        t.compare();
        t.mismatch();
        t.areEqual();
        t.areAlike();
        t.c.end();
    }

    private void copy() {
        c.promise(15);
        Risingbag x = Check.with(0, 4, 3, 1, 2);
        Check.label(x, 0, 7, 8, 9);
        Check.put(x, 1, 0, 1, 1, 1, 1, 1);
        c.same("copy(0, 1)", x.copy(0, 1), 3);
        c.same("both rows", Check.things(x), "4[3, 1, 2][7, 8, 9] 4[3, 1, 2][7, 8, 9] 0[]- 0[]- 0[]- 0[]- ");
        x.set(1, 0, 5);
        c.same("they are apart", x.text(0), "[3, 1, 2]");
        c.same("copy(0, 0)", x.copy(0, 0), 3);
        c.same("text", x.text(0), "[3, 1, 2]");
        c.same("tags", x.tags(0), "[7, 8, 9]");
        c.same("copy(2, 1)", x.copy(2, 1), 0);
        c.same("kind", x.kind(1), 0);
        c.same("text", x.text(1), "[]");
        c.same("nothing is counted", x.house(3) + x.house(4), 0);
        c.index(x, "copy(6, 0)", () -> x.copy(6, 0));
        c.index(x, "copy(-1, 0)", () -> x.copy(-1, 0));
        c.index(x, "copy(0, 6)", () -> x.copy(0, 6));
        c.index(x, "copy(0, -1)", () -> x.copy(0, -1));
    }

    private void copyPart() {
        c.promise(16);
        Risingbag x = Check.with(0, 4, 1, 2, 3, 4);
        Check.label(x, 0, 5, 6, 7, 8);
        c.same("copyPart(0, 1, 3, 1)", x.copyPart(0, 1, 3, 1), 2);
        c.same("text", x.text(1), "[2, 3]");
        c.same("tags", x.tags(1), "[6, 7]");
        c.same("kind", x.kind(1), 4);
        c.same("beyond the end", x.copyPart(0, 2, 6, 1), 4);
        c.same("text", x.text(1), "[3, 4, 0, 0]");
        c.same("tags", x.tags(1), "[7, 8, 0, 0]");
        c.same("empty", x.copyPart(0, 4, 4, 1), 0);
        c.same("from the end", x.copyPart(0, 4, 28, 1), 24);
        c.same("text", x.text(1), "[" + "0, ".repeat(23) + "0]");
        c.same("into itself", x.copyPart(0, 1, 6, 0), 5);
        c.same("text", x.text(0), "[2, 3, 4, 0, 0]");
        c.same("tags", x.tags(0), "[6, 7, 8, 0, 0]");
        Check.put(x, 2, 4, 8, 8, 8);
        Check.label(x, 2, 8, 8, 8);
        x.resize(2, 1);
        c.same("beyond the end, where more have been", x.copyPart(2, 0, 3, 1), 3);
        c.same("text and tags", x.text(1) + x.tags(1), "[8, 0, 0][8, 0, 0]");
        c.same("of nothing", x.copyPart(5, 0, 0, 1), 0);
        c.same("kind", x.kind(1), 0);
        c.same("refusals", x.house(4), 0);
        String things = Check.things(x);
        c.same("from above to", x.copyPart(0, 2, 1, 1), -9);
        c.same("from below 0", x.copyPart(0, -1, 1, 1), -9);
        c.same("from above the things", x.copyPart(0, 6, 7, 1), -9);
        c.same("from above the things, empty", x.copyPart(0, 6, 6, 1), -9);
        c.same("more than 24", x.copyPart(0, 0, 25, 1), -9);
        c.same("more than 24", x.copyPart(0, 5, 30, 1), -9);
        c.same("far more than 24", x.copyPart(0, 0, MOST, 1), -9);
        c.same("from the least", x.copyPart(0, LEAST, LEAST, 1), -9);
        c.same("from the least to the most", x.copyPart(0, LEAST, MOST, 1), -9);
        c.same("refusals", x.house(4), 9);
        c.same("nothing changes", Check.things(x), things);
        c.index(x, "copyPart(6, 2, 1, 0)", () -> x.copyPart(6, 2, 1, 0));
        c.index(x, "copyPart(-1, 0, 0, 0)", () -> x.copyPart(-1, 0, 0, 0));
        c.index(x, "copyPart(0, 2, 1, 6)", () -> x.copyPart(0, 2, 1, 6));
        c.index(x, "copyPart(0, 0, 0, -1)", () -> x.copyPart(0, 0, 0, -1));
    }

    private void merge() {
        c.promise(17);
        Risingbag x = Check.with(0, 4, 3, 1);
        Check.label(x, 0, 1, 2);
        Check.put(x, 1, 4, 3, 2);
        Check.label(x, 1, 3, 4);
        c.same("merge(0, 1)", x.merge(0, 1), 4);
        c.same("text", x.text(0), "[1, 2, 3, 3]");
        c.same("tags", x.tags(0), "[2, 4, 1, 3]");
        c.same("the other one stays", x.text(1) + x.tags(1), "[3, 2][3, 4]");
        c.same("merge(1, 1)", x.merge(1, 1), 4);
        c.same("text", x.text(1), "[2, 2, 3, 3]");
        c.same("tags", x.tags(1), "[4, 4, 3, 3]");
        c.same("sorted", x.house(3), 2);
        Check.put(x, 2, 0, 2, 1);
        c.same("with nothing behind it", x.merge(2, 3), 2);
        c.same("it is sorted all the same", x.text(2), "[1, 2]");
        c.same("sorted", x.house(3), 3);
        c.same("nothing refused", x.house(4), 0);
        c.index(x, "merge(6, 0)", () -> x.merge(6, 0));
        c.index(x, "merge(-1, 0)", () -> x.merge(-1, 0));
        c.index(x, "merge(0, 6)", () -> x.merge(0, 6));
        c.index(x, "merge(0, -1)", () -> x.merge(0, -1));
    }

    private void mergeRefused() {
        Risingbag x = new Risingbag();
        x.make(0, 3, 12);
        x.make(1, 3, 13);
        x.make(2, 2, 1);
        String things = Check.things(x);
        c.same("one too many", x.merge(0, 1), -9);
        c.same("one too many of its own", x.merge(1, 1), -9);
        c.same("of another kind", x.merge(0, 2), -9);
        c.same("of another kind, without things", x.merge(0, 3), -9);
        c.same("refusals", x.house(4), 4);
        c.same("no sorting", x.house(3), 0);
        c.same("nothing changes", Check.things(x), things);
        c.same("just 24", x.merge(0, 0), 24);
    }

    private void compare() {
        c.promise(18);
        Risingbag x = Check.with(0, 1, 1, 2, 3);
        Check.put(x, 1, 1, 1, 3);
        Check.put(x, 2, 1, 1, 2);
        Check.put(x, 3, 1, LEAST);
        Check.put(x, 4, 1, MOST);
        int[][] due = {
            {0, -1, 1, 1, -1, -9}, {1, 0, 1, 1, -1, -9}, {-1, -1, 0, 1, -1, -9},
            {-1, -1, -1, 0, -1, -9}, {1, 1, 1, 1, 0, -9}, {-9, -9, -9, -9, -9, 0}};
        for (int row = 0; row < 6; row++) {
            for (int other = 0; other < 6; other++) {
                c.same("compare(" + row + ", " + other + ")", x.compare(row, other), due[row][other]);
            }
        }
        c.same("this is no refusal that is counted", x.house(4), 0);
        Check.put(x, 0, 4, 1, 2);
        Check.put(x, 1, 4, 1, 2);
        Check.label(x, 0, 9, 9);
        c.same("tags are not looked at", x.compare(0, 1), 0);
        x.make(2, 4, 0);
        c.same("nothing is less", x.compare(2, 1), -1);
        c.same("than nothing", x.compare(1, 2), 1);
        c.index(x, "compare(6, 0)", () -> x.compare(6, 0));
        c.index(x, "compare(0, 6)", () -> x.compare(0, 6));
        c.index(x, "compare(-1, 0)", () -> x.compare(-1, 0));
        c.index(x, "compare(0, -1)", () -> x.compare(0, -1));
    }

    private void mismatch() {
        c.promise(19);
        Risingbag x = Check.with(0, 4, 1, 2, 3);
        Check.put(x, 1, 4, 1, 2, 4);
        Check.put(x, 2, 4, 1, 2);
        Check.put(x, 3, 4, 1, 2, 3);
        Check.label(x, 3, 5, 5, 5);
        x.make(4, 4, 0);
        c.same("mismatch(0, 1)", x.mismatch(0, 1), 2);
        c.same("mismatch(0, 2)", x.mismatch(0, 2), 2);
        c.same("mismatch(2, 0)", x.mismatch(2, 0), 2);
        c.same("tags are not looked at", x.mismatch(0, 3), -1);
        c.same("mismatch(0, 4)", x.mismatch(0, 4), 0);
        c.same("mismatch(4, 4)", x.mismatch(4, 4), -1);
        c.same("mismatch(4, 5)", x.mismatch(4, 5), -9);
        x.copy(0, 1);
        x.resize(1, 2);
        c.same("where more have been", x.mismatch(0, 1), 2);
        c.same("and the other way", x.mismatch(1, 0), 2);
        c.same("the shorter one is less", x.compare(1, 0), -1);
        c.same("this is no refusal that is counted", x.house(4), 0);
        c.index(x, "mismatch(6, 0)", () -> x.mismatch(6, 0));
        c.index(x, "mismatch(0, 6)", () -> x.mismatch(0, 6));
        c.index(x, "mismatch(-1, 0)", () -> x.mismatch(-1, 0));
        c.index(x, "mismatch(0, -1)", () -> x.mismatch(0, -1));
    }

    private void areEqual() {
        c.promise(20);
        Risingbag x = Check.with(0, 4, 1, 2);
        Check.put(x, 1, 4, 1, 2);
        Check.label(x, 1, 3, 4);
        Check.put(x, 2, 4, 2, 1);
        Check.put(x, 3, 4, 1, 2, 0);
        Check.put(x, 4, 1, 1, 2);
        c.same("areEqual(0, 0)", x.areEqual(0, 0), true);
        c.same("areEqual(0, 1)", x.areEqual(0, 1), true);
        c.same("areEqual(0, 2)", x.areEqual(0, 2), false);
        c.same("areEqual(0, 3)", x.areEqual(0, 3), false);
        c.same("areEqual(3, 0)", x.areEqual(3, 0), false);
        c.same("areEqual(0, 4)", x.areEqual(0, 4), false);
        x.make(0, 2, 0);
        c.same("nothing of unlike kinds", x.areEqual(0, 5), false);
        x.make(0, 0, 0);
        c.same("nothing of one kind", x.areEqual(0, 5), true);
        c.index(x, "areEqual(6, 0)", () -> x.areEqual(6, 0));
        c.index(x, "areEqual(0, 6)", () -> x.areEqual(0, 6));
        c.index(x, "areEqual(-1, 0)", () -> x.areEqual(-1, 0));
        c.index(x, "areEqual(0, -1)", () -> x.areEqual(0, -1));
    }

    private void areAlike() {
        c.promise(21);
        Risingbag x = Check.with(0, 4, 1, 2, 2);
        Check.put(x, 1, 4, 2, 1, 2);
        Check.label(x, 1, 3, 4, 5);
        Check.put(x, 2, 4, 2, 1, 1);
        Check.put(x, 3, 4, 1, 2, 2, 2);
        Check.put(x, 4, 1, 1, 2, 2);
        c.same("areAlike(0, 0)", x.areAlike(0, 0), true);
        c.same("areAlike(0, 1)", x.areAlike(0, 1), true);
        c.same("areAlike(0, 2)", x.areAlike(0, 2), false);
        c.same("areAlike(0, 3)", x.areAlike(0, 3), false);
        Check.put(x, 2, 4, 3, 2, 2);
        c.same("unlike at the first place", x.areAlike(0, 2), false);
        c.same("and the other way", x.areAlike(2, 0), false);
        c.same("areAlike(3, 0)", x.areAlike(3, 0), false);
        c.same("areAlike(0, 4)", x.areAlike(0, 4), false);
        c.same("nothing of one kind", x.areAlike(5, 5), true);
        x.make(0, 3, 0);
        c.same("nothing of unlike kinds", x.areAlike(0, 5), false);
        c.index(x, "areAlike(6, 0)", () -> x.areAlike(6, 0));
        c.index(x, "areAlike(0, 6)", () -> x.areAlike(0, 6));
        c.index(x, "areAlike(-1, 0)", () -> x.areAlike(-1, 0));
        c.index(x, "areAlike(0, -1)", () -> x.areAlike(0, -1));
    }
}
