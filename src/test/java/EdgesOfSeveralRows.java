import java.util.Arrays;
import java.util.function.Supplier;

/** The bounds of the promises 15 to 21: the section of several rows. */
final class EdgesOfSeveralRows extends Edges {
    private static final String OTHER = "Throws `IndexOutOfBoundsException` if there is no such ROW as row or other";
    private static final String INTO = "Throws `IndexOutOfBoundsException` if there is no such ROW as row or into";

    EdgesOfSeveralRows(Check c) {
        super(c);
    }

    private interface TwoCall {
        Object on(Risingbag x, int row, int other);
    }

    void run() {
        copyRow();
        copyPart();
        copyPartRefused();
        copyPartIntoItself();
        mergeRows();
        mergeRefused();
        mergeWithItself();
        compareRows();
        compareRefused();
        mismatchRows();
        mismatchRefused();
        areEqual();
        areAlike();
        whereMoreHaveBeen();
        twoRowNumbers();
    }

    /** The call is let for the rows 0 to 5, as the first one and as the other one, and for no other number. */
    private void twoRows(Supplier<Risingbag> made, TwoCall call) {
        for (int good : new int[] {0, 1, 2, 3, 4, 5}) {
            rows(made, (x, row) -> call.on(x, row, good));
            rows(made, (x, row) -> call.on(x, good, row));
        }
        for (int bad : new int[] {-1, 6, LEAST, MOST}) {
            Risingbag x = made.get();
            c.index(x, "both rows " + bad, () -> call.on(x, bad, bad));
        }
    }

    private void twoRowNumbers() {
        promise(15);
        sentences("- `row`: the ROW that is taken", "- `into`: the ROW that becomes that", INTO);
        twoRows(() -> six(4, 2, 1), (x, row, into) -> x.copy(row, into));
        promise(16);
        sentences("- `row`: the ROW that is taken", "- `into`: the ROW that becomes that", INTO);
        twoRows(() -> six(4, 2, 1), (x, row, into) -> x.copyPart(row, 0, 3, into));
        twoRows(() -> six(4, 2, 1), (x, row, into) -> x.copyPart(row, 1, 0, into));
        promise(17);
        sentences(ROW, "- `other`: another ROW, or the same", OTHER);
        twoRows(() -> six(4, 2, 1), (x, row, other) -> x.merge(row, other));
        twoRows(() -> six(4, new int[13]), (x, row, other) -> x.merge(row, other));
        promise(18);
        sentences("- `row`: a ROW", "- `other`: a ROW", OTHER);
        twoRows(() -> six(4, 2, 1), (x, row, other) -> x.compare(row, other));
        promise(19);
        sentences("- `row`: a ROW", "- `other`: a ROW", OTHER);
        twoRows(() -> six(4, 2, 1), (x, row, other) -> x.mismatch(row, other));
        promise(20);
        sentences("- `row`: a ROW", "- `other`: a ROW", OTHER);
        twoRows(() -> six(4, 2, 1), (x, row, other) -> x.areEqual(row, other));
        promise(21);
        sentences("- `row`: a ROW", "- `other`: a ROW", OTHER);
        twoRows(() -> six(4, 2, 1), (x, row, other) -> x.areAlike(row, other));
    }

    /** Just that row has become this. */
    private void become(Risingbag x, String before, int into, String due) {
        String[] rows = before.split(" (?=\\d\\[)");
        for (int row = 0; row < 6; row++) {
            c.same("row " + row + " then", Check.row(x, row), row == into ? due : rows[row].trim());
        }
    }

    private void copyRow() {
        promise(15);
        sentences("A ROW becomes as another one (KIND and THINGS).", "Returns how many THINGS it has.");
        for (int kind = 0; kind <= 4; kind++) {
            for (int many : new int[] {0, 1, 23, 24}) {
                Risingbag x = put(with(kind, steps(many, 50, -1)), 5, (kind + 1) % 5, 8, 7, 6);
                String row = Check.row(x, 2);
                String before = Check.things(x);
                c.same("copy(2, 5) of " + many, x.copy(2, 5), many);
                become(x, before, 5, row);
                c.same("copy(5, 5)", x.copy(5, 5), many);
                become(x, before, 5, row);
                c.same("nothing was sorted or refused", x.house(3) + x.house(4), 0);
                if (many > 0) {
                    x.set(5, 0, 100);
                    c.same("they are apart", Check.row(x, 2), row);
                }
            }
        }
    }

    private void copyPart() {
        promise(16);
        sentences("A ROW becomes as a PART of another one; a PART may go beyond its end: as resize() then "
            + "(it has to less from THINGS).", "- `from`: the first place", "- `to`: behind the last one");
        for (int many : new int[] {0, 1, 3, 23, 24}) {
            for (int from : new int[] {0, 1, 2, many - 1, many}) {
                for (int to : new int[] {from, from + 1, many - 1, many, many + 1, 24, from + 23, from + 24}) {
                    if (from >= 0 && from <= many && from <= to && to - from <= 24) {
                        copyPartIsLet(4, many, from, to);
                        copyPartIsLet(2, many, from, to);
                    }
                }
            }
        }
    }

    private void copyPartIsLet(int kind, int many, int from, int to) {
        int[] values = steps(many, 50, -1);
        Risingbag x = put(with(kind, values), 3, 1, steps(24, 7, 7));
        String before = Check.things(x);
        c.same("copyPart(2, " + from + ", " + to + ", 3) of " + many, x.copyPart(2, from, to, 3), to - from);
        String then = kind + list(Arrays.copyOfRange(values, from, to));
        int[] tags = Arrays.copyOfRange(steps(many, 10, 1), from, to);
        become(x, before, 3, then + (kind == 4 ? list(tags) : "-"));
        c.same("nothing was sorted or refused", x.house(3) + x.house(4), 0);
    }

    private void copyPartRefused() {
        promise(16);
        sentences("Returns how many THINGS it has; -9 if from is above to, below 0, or above how many THINGS "
            + "there are, or it would be more than 24.");
        for (int many : new int[] {0, 1, 3, 24}) {
            for (int from : bounds(many)) {
                for (int to : new int[] {LEAST, -1, 0, many, many + 1, 23, 24, 25, many + 24, many + 25, MOST}) {
                    boolean let = from >= 0 && from <= many && from <= to && (long) to - from <= 24;
                    Risingbag x = put(with(4, steps(many, 50, -1)), 3, 0, 8, 9);
                    String what = "copyPart(2, " + from + ", " + to + ", 3) of " + many;
                    if (let) {
                        c.same(what, x.copyPart(2, from, to, 3), to - from);
                        c.same("this is not refused", x.house(4), 0);
                    } else {
                        c.refused(x, what, () -> x.copyPart(2, from, to, 3));
                    }
                }
            }
        }
    }

    private void copyPartIntoItself() {
        promise(16);
        sentences("A ROW becomes as a PART of another one; a PART may go beyond its end: as resize() then "
            + "(it has to less from THINGS).");
        int[][] parts = {{0, 24}, {0, 0}, {0, 1}, {23, 24}, {23, 47}, {24, 24}, {24, 48}, {1, 24}, {1, 25}, {12, 30}};
        for (int[] part : parts) {
            int[] values = steps(24, 50, -1);
            Risingbag x = with(4, values);
            c.same("copyPart(2, " + part[0] + ", " + part[1] + ", 2)", x.copyPart(2, part[0], part[1], 2),
                part[1] - part[0]);
            c.same("text", x.text(2), list(Arrays.copyOfRange(values, part[0], part[1])));
            c.same("tags", x.tags(2), list(Arrays.copyOfRange(steps(24, 10, 1), part[0], part[1])));
        }
        Risingbag x = with(4, steps(24, 50, -1));
        c.refused(x, "beyond 24 into itself", () -> x.copyPart(2, 0, 25, 2));
    }

    private void mergeRows() {
        promise(17);
        sentences("The THINGS of another ROW of that KIND come behind a ROW, and it is sorted.");
        for (int kind = 0; kind <= 4; kind++) {
            int least = LEAST_OF[kind];
            int most = MOST_OF[kind];
            Risingbag x = put(with(kind, most, least, 5), 3, kind, 5, most, least);
            String before = Check.things(x);
            c.same("merge(2, 3)", x.merge(2, 3), 6);
            String tags = kind == 4 ? "[11, 12, 12, 10, 10, 11]" : "-";
            become(x, before, 2, kind + list(least, least, 5, 5, most, most) + tags);
            c.same("it is counted as sorted", x.house(3), 1);
        }
        Risingbag x = put(with(4, 2, 1), 3, 4);
        String before = Check.things(x);
        c.same("with a row without things", x.merge(2, 3), 2);
        become(x, before, 2, "4[1, 2][11, 10]");
        c.same("it is counted as sorted", x.house(3), 1);
        Risingbag y = put(with(4, 2, 1), 3, 4);
        before = Check.things(y);
        c.same("a row without things with it", y.merge(3, 2), 2);
        become(y, before, 3, "4[1, 2][11, 10]");
        c.same("two rows without things", y.merge(0, 1), 0);
        c.same("they are counted as sorted", y.house(3), 2);
    }

    private void mergeRefused() {
        promise(17);
        sentences("Returns how many THINGS it has then; -9 if the KINDS differ, or it would be more than 24.");
        for (int many : new int[] {0, 1, 11, 12, 13, 23, 24}) {
            for (int more : new int[] {23 - many, 24 - many, 25 - many, 24}) {
                if (more < 0 || more > 24) {
                    continue;
                }
                Risingbag x = put(with(4, steps(many, 50, -1)), 3, 4, steps(more, 90, -1));
                String what = "merge(2, 3) of " + many + " and " + more;
                if (many + more <= 24) {
                    c.same(what, x.merge(2, 3), many + more);
                    c.same("this is not refused", x.house(4), 0);
                } else {
                    c.refused(x, what, () -> x.merge(2, 3));
                }
            }
        }
        for (int kind = 0; kind <= 4; kind++) {
            for (int other = 0; other <= 4; other++) {
                for (int many : new int[] {0, 2}) {
                    Risingbag x = put(with(kind, steps(many, 9, -1)), 3, other, steps(many, 8, -1));
                    if (kind == other) {
                        c.same("of one kind", x.merge(2, 3), 2 * many);
                    } else {
                        c.refused(x, "of kinds " + kind + " and " + other, () -> x.merge(2, 3));
                    }
                }
            }
        }
    }

    private void mergeWithItself() {
        promise(17);
        sentences("- `other`: another ROW, or the same");
        for (int many : new int[] {0, 1, 2, 11, 12}) {
            Risingbag x = with(4, steps(many, 50, -1));
            c.same("merge(2, 2) of " + many, x.merge(2, 2), 2 * many);
            int[] values = new int[2 * many];
            int[] tags = new int[2 * many];
            for (int k = 0; k < 2 * many; k++) {
                values[k] = 51 - many + k / 2;
                tags[k] = 9 + many - k / 2;
            }
            c.same("text", x.text(2), list(values));
            c.same("tags", x.tags(2), list(tags));
        }
        for (int many : new int[] {13, 23, 24}) {
            Risingbag x = with(4, steps(many, 50, -1));
            c.refused(x, "merge(2, 2) of " + many, () -> x.merge(2, 2));
        }
    }

    private static final int[] LATE = steps(24, 1, 1);
    private static final int[] LATER = steps(24, 1, 1);

    static {
        LATER[23] = 25;
    }

    /** Two rows of values, and what they are by ORDER, and where they differ. */
    private static final Object[][] ORDERED = {
        {new int[] {}, new int[] {}, 0, -1},
        {new int[] {}, new int[] {LEAST}, -1, 0},
        {new int[] {LEAST}, new int[] {LEAST}, 0, -1},
        {new int[] {LEAST}, new int[] {MOST}, -1, 0},
        {new int[] {-1}, new int[] {MOST}, -1, 0},
        {new int[] {LEAST}, new int[] {1}, -1, 0},
        {new int[] {1, 2}, new int[] {1, 2}, 0, -1},
        {new int[] {1, 2}, new int[] {1, 2, LEAST}, -1, 2},
        {new int[] {1, 2, 9, 9}, new int[] {1, 3}, -1, 1},
        {new int[] {1, 2, 9}, new int[] {1, 3, 0}, -1, 1},
        {new int[] {0, 9}, new int[] {1}, -1, 0},
        {LATE, LATE, 0, -1},
        {LATE, LATER, -1, 23},
        {Arrays.copyOf(LATE, 23), LATE, -1, 23},
    };

    private void compareRows() {
        promise(18);
        sentences("Returns -1 if the first one is LESS by ORDER, 1 if the other one is, 0 if neither; "
            + "-9 if the KINDS differ.");
        for (Object[] one : ORDERED) {
            int[] first = (int[]) one[0];
            int[] second = (int[]) one[1];
            Risingbag x = put(with(1, first), 3, 1, second);
            String what = list(first) + " and " + list(second);
            c.asked(x, what, one[2], () -> x.compare(2, 3));
            c.asked(x, what + ", the other way", -(int) one[2], () -> x.compare(3, 2));
            c.asked(x, "with itself", 0, () -> x.compare(2, 2));
        }
        Risingbag tagged = put(with(4, 1, 2), 3, 4, 1, 2);
        tagged.tag(3, 0, 99);
        c.asked(tagged, "tags are not looked at", 0, () -> tagged.compare(2, 3));
        c.asked(tagged, "tags are not looked at", 0, () -> tagged.compare(3, 2));
    }

    /** Of two rows of unlike kinds, with the same things or none, the call answers this, and nothing is counted. */
    private void unlikeKinds(Object due, TwoCall call) {
        for (int kind = 0; kind <= 4; kind++) {
            for (int other = 0; other <= 4; other++) {
                if (kind == other) {
                    continue;
                }
                for (int many : new int[] {0, 1, 24}) {
                    Risingbag x = put(with(kind, steps(many, 1, 1)), 3, other, steps(many, 1, 1));
                    c.asked(x, "of kinds " + kind + " and " + other, due, () -> call.on(x, 2, 3));
                }
            }
        }
    }

    private void compareRefused() {
        promise(18);
        sentences("Returns -1 if the first one is LESS by ORDER, 1 if the other one is, 0 if neither; "
            + "-9 if the KINDS differ.");
        unlikeKinds(-9, (x, row, other) -> x.compare(row, other));
    }

    private void mismatchRows() {
        promise(19);
        sentences("Returns the first place at which the VALUES differ, or that just one of both has; "
            + "NONE without one; -9 if the KINDS differ.");
        for (Object[] one : ORDERED) {
            int[] first = (int[]) one[0];
            int[] second = (int[]) one[1];
            Risingbag x = put(with(1, first), 3, 1, second);
            String what = list(first) + " and " + list(second);
            c.asked(x, what, one[3], () -> x.mismatch(2, 3));
            c.asked(x, what + ", the other way", one[3], () -> x.mismatch(3, 2));
            c.asked(x, "with itself", -1, () -> x.mismatch(2, 2));
        }
        Risingbag tagged = put(with(4, 1, 2), 3, 4, 1, 2);
        tagged.tag(3, 0, 99);
        c.asked(tagged, "tags are not looked at", -1, () -> tagged.mismatch(2, 3));
    }

    private void mismatchRefused() {
        promise(19);
        sentences("Returns the first place at which the VALUES differ, or that just one of both has; "
            + "NONE without one; -9 if the KINDS differ.");
        unlikeKinds(-9, (x, row, other) -> x.mismatch(row, other));
    }

    /** The shorter row has been as long as the other one, with the same things. */
    private void whereMoreHaveBeen() {
        for (int many : new int[] {0, 1, 2, 23}) {
            Risingbag x = with(4, steps(24, 1, 1));
            x.copy(2, 3);
            x.resize(3, many);
            promise(18);
            c.asked(x, "compare with " + many, 1, () -> x.compare(2, 3));
            c.asked(x, "compare of " + many, -1, () -> x.compare(3, 2));
            promise(19);
            c.asked(x, "mismatch with " + many, many, () -> x.mismatch(2, 3));
            c.asked(x, "mismatch of " + many, many, () -> x.mismatch(3, 2));
            promise(20);
            c.asked(x, "areEqual with " + many, false, () -> x.areEqual(2, 3));
            c.asked(x, "areEqual of " + many, false, () -> x.areEqual(3, 2));
            promise(21);
            c.asked(x, "areAlike with " + many, false, () -> x.areAlike(2, 3));
            c.asked(x, "areAlike of " + many, false, () -> x.areAlike(3, 2));
        }
    }

    private void areEqual() {
        promise(20);
        sentences("Returns whether they are of one KIND and have the same VALUES in the same sequence.");
        unlikeKinds(false, (x, row, other) -> x.areEqual(row, other));
        for (Object[] one : ORDERED) {
            int[] first = (int[]) one[0];
            int[] second = (int[]) one[1];
            Risingbag x = put(with(1, first), 3, 1, second);
            boolean due = (int) one[3] == -1;
            c.asked(x, list(first) + " and " + list(second), due, () -> x.areEqual(2, 3));
            c.asked(x, list(second) + " and " + list(first), due, () -> x.areEqual(3, 2));
            c.asked(x, "with itself", true, () -> x.areEqual(2, 2));
        }
        Risingbag tagged = put(put(with(4, 1, 2), 3, 4, 1, 2), 5, 4, 2, 1);
        tagged.tag(3, 0, 99);
        c.asked(tagged, "of unlike tags", true, () -> tagged.areEqual(2, 3));
        c.asked(tagged, "in another sequence", false, () -> tagged.areEqual(2, 5));
    }

    private void areAlike() {
        promise(21);
        sentences("Returns whether they are of one KIND, and each VALUE stands as often in both "
            + "(TAGS are not looked at).");
        unlikeKinds(false, (x, row, other) -> x.areAlike(row, other));
        Object[][] pairs = {
            {new int[] {}, new int[] {}, true},
            {new int[] {}, new int[] {0}, false},
            {new int[] {0}, new int[] {0, 0}, false},
            {new int[] {LEAST, MOST}, new int[] {MOST, LEAST}, true},
            {new int[] {1, 1, 2}, new int[] {1, 2, 2}, false},
            {new int[] {1, 2, 3}, new int[] {3, 1, 2}, true},
            {new int[] {1, 2, 3}, new int[] {1, 2, 4}, false},
            {new int[] {1, 2}, new int[] {1, 2, 77}, false},
            {new int[] {1, 2, 2}, new int[] {3, 2, 2}, false},
            {LATE, steps(24, 24, -1), true},
            {LATE, LATER, false},
            {new int[24], new int[23], false},
        };
        for (Object[] one : pairs) {
            int[] first = (int[]) one[0];
            int[] second = (int[]) one[1];
            Risingbag x = put(with(1, first), 3, 1, second);
            c.asked(x, list(first) + " and " + list(second), one[2], () -> x.areAlike(2, 3));
            c.asked(x, list(second) + " and " + list(first), one[2], () -> x.areAlike(3, 2));
            c.asked(x, "with itself", true, () -> x.areAlike(2, 2));
        }
        Risingbag tagged = put(with(4, 1, 2), 3, 4, 2, 1);
        c.asked(tagged, "tags are not looked at", true, () -> tagged.areAlike(2, 3));
    }
}
