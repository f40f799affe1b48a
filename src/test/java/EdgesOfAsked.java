import java.util.Arrays;

/** The bounds of the promises 22 to 41: the section of what is asked of a row. */
final class EdgesOfAsked extends Edges {
    EdgesOfAsked(Check c) {
        super(c);
    }

    void run() {
        kindAndSize();
        at();
        tagAt();
        text();
        tags();
        isRising();
        inversions();
        inversionsAt();
        counts();
        countArguments();
        search();
        searchArguments();
        searchPart();
        searchPartBeyond();
        searchPartArguments();
        last();
        nth();
        median();
        medianOfNone();
        unlike();
        mode();
        modeOfNone();
        hash();
        hashRefused();
    }

    private void kindAndSize() {
        for (int kind = 0; kind <= 4; kind++) {
            for (int many : new int[] {0, 1, 23, 24}) {
                promise(22);
                sentences("Returns its KIND.");
                tells(kind, steps(many, 1, 1), kind, (x, row) -> x.kind(row));
                promise(23);
                sentences("Returns how many THINGS it has.");
                tells(kind, steps(many, 1, 1), many, (x, row) -> x.size(row));
            }
        }
        promise(22);
        sentences(ROW, NO_ROW);
        rows(Risingbag::new, (x, row) -> x.kind(row));
        promise(23);
        sentences(ROW, NO_ROW);
        rows(Risingbag::new, (x, row) -> x.size(row));
    }

    private void at() {
        promise(24);
        sentences("Returns the VALUE there.");
        for (int kind = 0; kind <= 4; kind++) {
            tells(kind, new int[] {LEAST_OF[kind], 5}, LEAST_OF[kind], (x, row) -> x.at(row, 0));
            tells(kind, new int[] {5, MOST_OF[kind]}, MOST_OF[kind], (x, row) -> x.at(row, 1));
            tells(kind, steps(24, 1, 1), 24, (x, row) -> x.at(row, 23));
        }
        sentences(ROW, "- `place`: a place", NO_PLACE);
        rows(() -> six(0, 1), (x, row) -> x.at(row, 0));
        for (int kind = 0; kind <= 4; kind++) {
            places(kind, (x, row, place) -> x.at(row, place));
        }
    }

    private void tagAt() {
        promise(25);
        sentences("Returns the TAG there.");
        tells(4, new int[] {5, 4}, 10, (x, row) -> x.tagAt(row, 0));
        tells(4, new int[] {5, 4}, 11, (x, row) -> x.tagAt(row, 1));
        tells(4, steps(24, 1, 1), 33, (x, row) -> x.tagAt(row, 23));
        for (int tag : new int[] {0, 99}) {
            Risingbag x = with(4, 8);
            x.tag(2, 0, tag);
            c.asked(x, "tag " + tag, tag, () -> x.tagAt(2, 0));
        }
        sentences(ROW, "- `place`: a place", NO_PLACE);
        rows(() -> six(4, 1), (x, row) -> x.tagAt(row, 0));
        places(4, (x, row, place) -> x.tagAt(row, place));
        sentences(NO_PAIRS);
        pairsAlone((x, row) -> x.tagAt(row, 0));
    }

    private void text() {
        promise(26);
        sentences("Returns \"[\", its VALUES with \", \" between, \"]\".");
        for (int kind = 0; kind <= 4; kind++) {
            tells(kind, new int[] {}, "[]", (x, row) -> x.text(row));
            tells(kind, new int[] {0}, "[0]", (x, row) -> x.text(row));
            String both = "[" + LEAST_OF[kind] + ", " + MOST_OF[kind] + "]";
            tells(kind, new int[] {LEAST_OF[kind], MOST_OF[kind]}, both, (x, row) -> x.text(row));
        }
        int[] longest = new int[24];
        Arrays.fill(longest, LEAST);
        tells(1, longest, "[" + "-2147483648, ".repeat(23) + "-2147483648]", (x, row) -> x.text(row));
        sentences(ROW, NO_ROW);
        rows(Risingbag::new, (x, row) -> x.text(row));
    }

    private void tags() {
        promise(27);
        sentences("Returns its TAGS likewise; \"-\" if the KIND is not 4.");
        for (int kind = 0; kind <= 3; kind++) {
            tells(kind, new int[] {}, "-", (x, row) -> x.tags(row));
            tells(kind, new int[] {3, 4}, "-", (x, row) -> x.tags(row));
            tells(kind, new int[24], "-", (x, row) -> x.tags(row));
        }
        tells(4, new int[] {}, "[]", (x, row) -> x.tags(row));
        tells(4, new int[] {7}, "[10]", (x, row) -> x.tags(row));
        tells(4, new int[] {7, 6}, "[10, 11]", (x, row) -> x.tags(row));
        tells(4, new int[24], list(steps(24, 10, 1)), (x, row) -> x.tags(row));
        sentences(ROW, NO_ROW);
        rows(Risingbag::new, (x, row) -> x.tags(row));
    }

    private void isRising() {
        promise(28);
        sentences("Returns whether it is RISING.");
        int[][] rising = {{}, {LEAST}, {MOST, MOST}, {LEAST, MOST}, {-1, 0}, steps(24, 1, 1), new int[24]};
        for (int[] values : rising) {
            tells(0, values, true, (x, row) -> x.isRising(row));
        }
        int[] late = steps(24, 1, 1);
        late[23] = 22;
        int[][] falling = {{0, -1}, {MOST, LEAST}, {MOST, MOST - 1}, {2, 1, 3}, {1, 3, 2}, late};
        for (int[] values : falling) {
            tells(0, values, false, (x, row) -> x.isRising(row));
        }
        sentences(ROW, NO_ROW);
        rows(Risingbag::new, (x, row) -> x.isRising(row));
    }

    private void inversions() {
        promise(29);
        sentences("Returns INVERSIONS.");
        tells(0, new int[] {}, 0, (x, row) -> x.inversions(row));
        tells(0, new int[] {5}, 0, (x, row) -> x.inversions(row));
        tells(0, new int[] {5, 5}, 0, (x, row) -> x.inversions(row));
        tells(0, new int[] {LEAST, MOST}, 0, (x, row) -> x.inversions(row));
        tells(0, new int[] {MOST, LEAST}, 1, (x, row) -> x.inversions(row));
        tells(0, new int[] {3, 2, 3, 1, 2}, 6, (x, row) -> x.inversions(row));
        tells(0, new int[24], 0, (x, row) -> x.inversions(row));
        tells(0, steps(24, 50, -1), 276, (x, row) -> x.inversions(row));
        sentences(ROW, NO_ROW);
        rows(Risingbag::new, (x, row) -> x.inversions(row));
    }

    private void inversionsAt() {
        promise(30);
        sentences("Returns how many places ahead of it have a greater VALUE.");
        tells(0, new int[] {MOST}, 0, (x, row) -> x.inversionsAt(row, 0));
        tells(0, new int[] {MOST, LEAST, MOST}, 0, (x, row) -> x.inversionsAt(row, 0));
        tells(0, new int[] {MOST, LEAST, MOST}, 1, (x, row) -> x.inversionsAt(row, 1));
        tells(0, new int[] {MOST, LEAST, MOST}, 0, (x, row) -> x.inversionsAt(row, 2));
        tells(0, steps(24, 50, -1), 23, (x, row) -> x.inversionsAt(row, 23));
        tells(0, steps(24, 50, -1), 1, (x, row) -> x.inversionsAt(row, 1));
        tells(0, new int[24], 0, (x, row) -> x.inversionsAt(row, 23));
        sentences(ROW, "- `place`: a place", NO_PLACE);
        rows(() -> six(0, 1), (x, row) -> x.inversionsAt(row, 0));
        places(0, (x, row, place) -> x.inversionsAt(row, place));
        places(4, (x, row, place) -> x.inversionsAt(row, place));
    }

    private void counted(int kind, int[] values, int value, int smaller, int likes) {
        promise(31);
        sentences("Returns SMALLER.");
        tells(kind, values, smaller, (x, row) -> x.smaller(row, value));
        promise(32);
        sentences("Returns LIKES.");
        tells(kind, values, likes, (x, row) -> x.likes(row, value));
        promise(33);
        sentences("Returns GREATER.");
        tells(kind, values, values.length - smaller - likes, (x, row) -> x.greater(row, value));
    }

    private void counts() {
        for (int kind = 0; kind <= 4; kind++) {
            int least = LEAST_OF[kind];
            int most = MOST_OF[kind];
            counted(kind, new int[] {}, least, 0, 0);
            counted(kind, new int[] {least, most, most}, least, 0, 1);
            counted(kind, new int[] {least, most, most}, most, 1, 2);
            counted(kind, new int[] {most, least, most}, 6, 1, 0);
            counted(kind, new int[] {5, 7}, 6, 1, 0);
        }
        counted(0, new int[24], 0, 0, 24);
        counted(0, new int[24], -1, 0, 0);
        counted(0, new int[24], 1, 24, 0);
    }

    private void countArguments() {
        promise(31);
        sentences(ROW, NO_ROW);
        rows(() -> six(2, 1), (x, row) -> x.smaller(row, 0));
        sentences("- `value`: a number", NO_VALUE);
        values(0, (x, row, value) -> x.smaller(row, value));
        values(24, (x, row, value) -> x.smaller(row, value));
        promise(32);
        sentences(ROW, NO_ROW);
        rows(() -> six(2, 1), (x, row) -> x.likes(row, 0));
        sentences("- `value`: a number", NO_VALUE);
        values(0, (x, row, value) -> x.likes(row, value));
        values(24, (x, row, value) -> x.likes(row, value));
        promise(33);
        sentences(ROW, NO_ROW);
        rows(() -> six(2, 1), (x, row) -> x.greater(row, 0));
        sentences("- `value`: a number", NO_VALUE);
        values(0, (x, row, value) -> x.greater(row, value));
        values(24, (x, row, value) -> x.greater(row, value));
    }

    private void searched(int kind, int[] values, int value, int due) {
        tells(kind, values, due, (x, row) -> x.search(row, value));
        c.same("searchPart() of the whole",
            with(kind, values).searchPart(2, 0, values.length, value), due);
    }

    private void search() {
        promise(34);
        sentences("Returns the first place of that VALUE; without it NONE less the place at which it could come in, "
            + "so that the ROW stays RISING.");
        searched(0, new int[] {}, LEAST, -1);
        searched(0, new int[] {}, MOST, -1);
        for (int kind = 0; kind <= 4; kind++) {
            int least = LEAST_OF[kind];
            int most = MOST_OF[kind];
            searched(kind, new int[] {least, least, most, most}, least, 0);
            searched(kind, new int[] {least, least, most, most}, most, 2);
            searched(kind, new int[] {least, least, most, most}, least + 1, -3);
            searched(kind, new int[] {least, least, most, most}, most - 1, -3);
            searched(kind, new int[] {5, 6}, least, -1);
            searched(kind, new int[] {5, 6}, most, -3);
        }
        searched(0, new int[24], 0, 0);
        searched(0, new int[24], -1, -1);
        searched(0, new int[24], 1, -25);
        searched(0, steps(24, 0, 2), 46, 23);
        searched(0, steps(24, 0, 2), 45, -24);
        searched(0, steps(24, 0, 2), 47, -25);
        searched(0, new int[] {7, 7}, 7, 0);
        searched(0, new int[] {6, 7, 7}, 7, 1);
    }

    private void searchArguments() {
        promise(34);
        sentences("- `row`: a RISING ROW", NO_ROW);
        rows(() -> six(2, 1), (x, row) -> x.search(row, 0));
        sentences("- `value`: a number", NO_VALUE);
        values(0, (x, row, value) -> x.search(row, value));
        values(24, (x, row, value) -> x.search(row, value));
        sentences(NOT_RISING);
        risingAlone(0, (x, row) -> x.search(row, 2));
        risingAlone(4, (x, row) -> x.search(row, 2));
    }

    /** The first place in the part whose value is not below this one, told as the document says. */
    private static int place(int[] values, int from, int to, int value) {
        for (int k = from; k < to; k++) {
            if (values[k] >= value) {
                return values[k] == value ? k : -1 - k;
            }
        }
        return -1 - to;
    }

    private void searchPart() {
        promise(35);
        sentences("- `from`: the first place of a PART", "- `to`: behind the last one",
            "Returns likewise in that PART (places are those of the ROW); "
            + "-9999 if from is above to, or there is no such PART.");
        int[] values = {-5, 1, 3, 3, 3, 5, 7};
        for (int from = 0; from <= 7; from++) {
            for (int to = from; to <= 7; to++) {
                Risingbag x = with(0, values);
                for (int value = -6; value <= 8; value++) {
                    String what = "searchPart(2, " + from + ", " + to + ", " + value + ")";
                    c.same(what, x.searchPart(2, from, to, value), place(values, from, to, value));
                }
            }
        }
        tells(0, new int[] {}, -1, (x, row) -> x.searchPart(row, 0, 0, 5));
        tells(0, steps(24, 1, 1), 23, (x, row) -> x.searchPart(row, 23, 24, 24));
        tells(0, steps(24, 1, 1), -25, (x, row) -> x.searchPart(row, 24, 24, 24));
        tells(0, steps(24, 1, 1), 0, (x, row) -> x.searchPart(row, 0, 24, 1));
        tells(0, steps(24, 1, 1), -24, (x, row) -> x.searchPart(row, 0, 23, 24));
    }

    private void searchPartBeyond() {
        promise(35);
        sentences("Returns likewise in that PART (places are those of the ROW); "
            + "-9999 if from is above to, or there is no such PART.");
        for (int many : new int[] {0, 1, 3, 24}) {
            int[] values = steps(many, 1, 1);
            for (int from : bounds(many)) {
                for (int to : bounds(many)) {
                    int due = isPart(many, from, to) ? place(values, from, to, 2) : -9999;
                    Risingbag x = with(3, values);
                    String what = "searchPart(2, " + from + ", " + to + ", 2) of " + many;
                    c.asked(x, what, due, () -> x.searchPart(2, from, to, 2));
                }
            }
        }
    }

    private void searchPartArguments() {
        promise(35);
        sentences("- `row`: a RISING ROW", NO_ROW);
        rows(() -> six(2, 1), (x, row) -> x.searchPart(row, 0, 1, 0));
        rows(() -> six(2, 1), (x, row) -> x.searchPart(row, 1, 0, 0));
        sentences("- `value`: a number", NO_VALUE);
        values(0, (x, row, value) -> x.searchPart(row, 0, 0, value));
        values(24, (x, row, value) -> x.searchPart(row, 0, 24, value));
        values(24, (x, row, value) -> x.searchPart(row, 0, 25, value));
        sentences(NOT_RISING);
        risingAlone(0, (x, row) -> x.searchPart(row, 0, 0, 2));
        risingAlone(0, (x, row) -> x.searchPart(row, 0, 1, 2));
        risingAlone(0, (x, row) -> x.searchPart(row, 1, 0, 2));
    }

    private void last() {
        promise(36);
        sentences("Returns the last place of that VALUE; NONE without it.");
        for (int kind = 0; kind <= 4; kind++) {
            int least = LEAST_OF[kind];
            int most = MOST_OF[kind];
            tells(kind, new int[] {}, -1, (x, row) -> x.last(row, least));
            tells(kind, new int[] {least, least, most, most}, 1, (x, row) -> x.last(row, least));
            tells(kind, new int[] {least, least, most, most}, 3, (x, row) -> x.last(row, most));
            tells(kind, new int[] {least, least, most, most}, -1, (x, row) -> x.last(row, least + 1));
            tells(kind, new int[] {least}, 0, (x, row) -> x.last(row, least));
            tells(kind, new int[] {5, 6}, -1, (x, row) -> x.last(row, 77));
        }
        tells(0, new int[24], 23, (x, row) -> x.last(row, 0));
        tells(0, steps(24, 1, 1), 0, (x, row) -> x.last(row, 1));
        sentences("- `row`: a RISING ROW", NO_ROW);
        rows(() -> six(2, 1), (x, row) -> x.last(row, 0));
        sentences("- `value`: a number", NO_VALUE);
        values(0, (x, row, value) -> x.last(row, value));
        values(24, (x, row, value) -> x.last(row, value));
        sentences(NOT_RISING);
        risingAlone(0, (x, row) -> x.last(row, 2));
        risingAlone(4, (x, row) -> x.last(row, 2));
    }

    private void nth() {
        promise(37);
        sentences("Returns the VALUE that would stand at the place n, if it were sorted.");
        int[] mixed = {MOST, 4, LEAST, 4, -1};
        int[] sorted = {LEAST, -1, 4, 4, MOST};
        for (int n : new int[] {0, 1, 2, 3, 4}) {
            tells(0, mixed, sorted[n], (x, row) -> x.nth(row, n));
        }
        tells(0, new int[] {7}, 7, (x, row) -> x.nth(row, 0));
        tells(0, steps(24, 50, -1), 27, (x, row) -> x.nth(row, 0));
        tells(0, steps(24, 50, -1), 50, (x, row) -> x.nth(row, 23));
        sentences(ROW, "- `n`: a number", NO_PLACE);
        rows(() -> six(2, 1), (x, row) -> x.nth(row, 0));
        places(0, (x, row, place) -> x.nth(row, place));
        places(4, (x, row, place) -> x.nth(row, place));
    }

    private void median() {
        promise(38);
        sentences("Returns nth() of the half of how many THINGS it has less one (rounded down).");
        tells(0, new int[] {7}, 7, (x, row) -> x.median(row));
        tells(0, new int[] {9, -2}, -2, (x, row) -> x.median(row));
        tells(0, new int[] {9, -2, 4}, 4, (x, row) -> x.median(row));
        tells(0, new int[] {9, -2, 4, 5}, 4, (x, row) -> x.median(row));
        tells(0, new int[] {9, -2, 4, 5, 6}, 5, (x, row) -> x.median(row));
        tells(0, steps(23, 123, -1), 112, (x, row) -> x.median(row));
        tells(0, steps(24, 124, -1), 112, (x, row) -> x.median(row));
        tells(1, new int[] {MOST, LEAST}, LEAST, (x, row) -> x.median(row));
        sentences(ROW, NO_ROW);
        rows(() -> six(2, 1), (x, row) -> x.median(row));
    }

    private void medianOfNone() {
        promise(38);
        sentences("Throws `IllegalStateException` if it has none");
        for (int kind = 0; kind <= 4; kind++) {
            Risingbag x = zeros(kind, 0);
            c.illegalState(x, "of kind " + kind, () -> x.median(2));
            c.same("of one thing", zeros(kind, 1).median(2), 0);
        }
    }

    private void unlike() {
        promise(39);
        sentences("Returns how many unlike VALUES it has.");
        tells(0, new int[] {}, 0, (x, row) -> x.unlike(row));
        tells(0, new int[] {7}, 1, (x, row) -> x.unlike(row));
        tells(0, new int[] {7, 7}, 1, (x, row) -> x.unlike(row));
        tells(0, new int[] {LEAST, MOST}, 2, (x, row) -> x.unlike(row));
        tells(0, new int[] {2, 1, 2, 1, 2}, 2, (x, row) -> x.unlike(row));
        tells(4, new int[24], 1, (x, row) -> x.unlike(row));
        tells(4, steps(24, 50, -1), 24, (x, row) -> x.unlike(row));
        sentences(ROW, NO_ROW);
        rows(Risingbag::new, (x, row) -> x.unlike(row));
    }

    private void mode() {
        promise(40);
        sentences("Returns the VALUE with most LIKES; of several the smallest.");
        tells(0, new int[] {7}, 7, (x, row) -> x.mode(row));
        tells(0, new int[] {9, 7}, 7, (x, row) -> x.mode(row));
        tells(0, new int[] {9, 9, 7}, 9, (x, row) -> x.mode(row));
        tells(0, new int[] {7, 9, 9}, 9, (x, row) -> x.mode(row));
        tells(0, new int[] {9, 7, 9, 7}, 7, (x, row) -> x.mode(row));
        tells(0, new int[] {5, 9, 7, 9, 7, 1}, 7, (x, row) -> x.mode(row));
        tells(0, new int[] {-1, -2}, -2, (x, row) -> x.mode(row));
        tells(0, new int[] {0, -1}, -1, (x, row) -> x.mode(row));
        tells(0, new int[] {1, 0}, 0, (x, row) -> x.mode(row));
        tells(1, new int[] {MOST, LEAST}, LEAST, (x, row) -> x.mode(row));
        tells(1, new int[] {MOST, LEAST, MOST}, MOST, (x, row) -> x.mode(row));
        tells(0, steps(24, 50, -1), 27, (x, row) -> x.mode(row));
        tells(0, new int[24], 0, (x, row) -> x.mode(row));
        sentences(ROW, NO_ROW);
        rows(() -> six(2, 1), (x, row) -> x.mode(row));
    }

    private void modeOfNone() {
        promise(40);
        sentences("Throws `IllegalStateException` if it has no THINGS");
        for (int kind = 0; kind <= 4; kind++) {
            Risingbag x = zeros(kind, 0);
            c.illegalState(x, "of kind " + kind, () -> x.mode(2));
            c.same("of one thing", zeros(kind, 1).mode(2), 0);
        }
    }

    private static final String HASH = "Returns a number: 1 at first, then for each VALUE 31 times as much, and the "
        + "VALUE, which wraps around as a 32-bit integer; -9 if the KIND is not 0.";

    private void hash() {
        promise(41);
        sentences(HASH);
        tells(0, new int[] {}, 1, (x, row) -> x.hash(row));
        tells(0, new int[] {0}, 31, (x, row) -> x.hash(row));
        tells(0, new int[] {-31}, 0, (x, row) -> x.hash(row));
        tells(0, new int[] {-40}, -9, (x, row) -> x.hash(row));
        tells(0, new int[] {3, 5}, (31 + 3) * 31 + 5, (x, row) -> x.hash(row));
        tells(0, new int[] {5, 3}, (31 + 5) * 31 + 3, (x, row) -> x.hash(row));
        tells(0, new int[] {MOST - 31}, MOST, (x, row) -> x.hash(row));
        tells(0, new int[] {MOST - 30}, LEAST, (x, row) -> x.hash(row));
        tells(0, new int[] {LEAST}, LEAST + 31, (x, row) -> x.hash(row));
        tells(0, new int[] {MOST}, LEAST + 30, (x, row) -> x.hash(row));
        int[] full = new int[24];
        Arrays.fill(full, MOST);
        tells(0, full, Arrays.hashCode(full), (x, row) -> x.hash(row));
        tells(0, steps(24, LEAST, 178956970), Arrays.hashCode(steps(24, LEAST, 178956970)), (x, row) -> x.hash(row));
        sentences(ROW, NO_ROW);
        rows(Risingbag::new, (x, row) -> x.hash(row));
    }

    private void hashRefused() {
        promise(41);
        sentences(HASH);
        for (int kind = 1; kind <= 4; kind++) {
            for (int many : new int[] {0, 1, 24}) {
                tells(kind, steps(many, 1, 1), -9, (x, row) -> x.hash(row));
            }
        }
    }
}
