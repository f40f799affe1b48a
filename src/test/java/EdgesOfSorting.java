import java.util.Arrays;

/** The bounds of the promises 10 to 14: the section of sorting. */
final class EdgesOfSorting extends Edges {
    EdgesOfSorting(Check c) {
        super(c);
    }

    void run() {
        sortRow();
        sortRowNumber();
        sortPart();
        sortPartRefused();
        sortHalves();
        sortHalvesRefused();
        sortBy();
        sortByLastDigit();
        sortByArguments();
        riseOnce();
        riseOfRising();
    }

    private void sortRow() {
        promise(10);
        sentences("Sorts a ROW.", "Returns how many INVERSIONS it had.");
        for (int kind = 0; kind <= 4; kind++) {
            for (int many : new int[] {0, 1, 2, 23, 24}) {
                Risingbag x = with(kind, steps(many, 30, -1));
                c.same("sort of " + many + " that fall", x.sort(2), many * (many - 1) / 2);
                c.same("text", x.text(2), list(steps(many, 31 - many, 1)));
                c.same("tags", x.tags(2), kind == 4 ? list(steps(many, 9 + many, -1)) : "-");
                c.same("sort of what rises", x.sort(2), 0);
                c.same("each is counted", x.house(3), 2);
                c.same("none is refused", x.house(4), 0);
            }
            int least = LEAST_OF[kind];
            int most = MOST_OF[kind];
            Risingbag x = with(kind, most, 1, least, most, least);
            c.same("the least and the most", x.sort(2), 6);
            c.same("text", x.text(2), list(least, least, 1, most, most));
        }
        Risingbag like = with(4, new int[24]);
        c.same("sort of like ones", like.sort(2), 0);
        c.same("they keep their sequence", like.tags(2), list(steps(24, 10, 1)));
        changes(() -> six(4, 3, 2), 1, "4[2, 3][11, 10]", (x, row) -> x.sort(row));
    }

    private void sortRowNumber() {
        promise(10);
        sentences(ROW, NO_ROW);
        rows(() -> six(0, 2, 1), (x, row) -> x.sort(row));
        rows(Risingbag::new, (x, row) -> x.sort(row));
    }

    /** In a row that began as 30, 29 and so on, the tags that began with these values. */
    private static int[] tagsOf(int[] values) {
        int[] tags = new int[values.length];
        for (int k = 0; k < tags.length; k++) {
            tags[k] = 40 - values[k];
        }
        return tags;
    }

    private void sortPart() {
        promise(11);
        sentences("Sorts a PART.", "- `from`: the first place", "- `to`: behind the last one");
        for (int many : new int[] {0, 1, 2, 5, 24}) {
            for (int from = 0; from <= many; from++) {
                for (int to = from; to <= many; to++) {
                    int[] values = steps(many, 30, -1);
                    Risingbag x = with(4, values);
                    int sorted = (to - from) * (to - from - 1) / 2;
                    c.same("from " + from + " to " + to, x.sortPart(2, from, to), many * (many - 1) / 2 - sorted);
                    Arrays.sort(values, from, to);
                    c.same("text", x.text(2), list(values));
                    c.same("tags", x.tags(2), list(tagsOf(values)));
                    c.same("it is counted", x.house(3), 1);
                }
            }
        }
        changes(() -> six(0, 9, 3, 2), 2, "0[9, 2, 3]-", (x, row) -> x.sortPart(row, 1, 3));
    }

    private void sortPartRefused() {
        promise(11);
        sentences("Returns how many INVERSIONS the ROW has then; -9 if from is above to, or there is no such PART.");
        parts(0, (x, row, from, to) -> x.sortPart(row, from, to));
        parts(4, (x, row, from, to) -> x.sortPart(row, from, to));
        Risingbag x = with(0, 5, 4, 3);
        c.same("an empty part ahead", x.sortPart(2, 0, 0), 3);
        c.same("an empty part at the end", x.sortPart(2, 3, 3), 3);
        c.same("a part of one", x.sortPart(2, 2, 3), 3);
        c.same("the row stays", x.text(2), "[5, 4, 3]");
        c.same("they are counted all the same", x.house(3), 3);
        sentences(ROW, NO_ROW);
        rows(() -> six(0, 2, 1), (y, row) -> y.sortPart(row, 0, 2));
        rows(() -> six(0, 2, 1), (y, row) -> y.sortPart(row, 2, 1));
    }

    private void sortHalves() {
        promise(12);
        sentences("Sorts the PART ahead of a place, and that from it on.", "- `at`: the place");
        for (int many : new int[] {0, 1, 2, 5, 24}) {
            for (int at = 0; at <= many; at++) {
                int[] values = steps(many, 30, -1);
                Risingbag x = with(4, values);
                c.same("sortHalves(2, " + at + ") of " + many, x.sortHalves(2, at), at * (many - at));
                Arrays.sort(values, 0, at);
                Arrays.sort(values, at, many);
                c.same("text", x.text(2), list(values));
                c.same("tags", x.tags(2), list(tagsOf(values)));
                c.same("it is counted once", x.house(3), 1);
            }
        }
        Risingbag low = with(1, -5, LEAST, -9, -1, LEAST);
        c.same("values below 0", low.sortHalves(2, 3), 2);
        c.same("text", low.text(2), list(LEAST, -9, -5, LEAST, -1));
        Risingbag x = with(4, 1, 1, 0, 1, 1);
        c.same("like ones in both", x.sortHalves(2, 2), 2);
        c.same("they keep their sequence", x.tags(2), "[10, 11, 12, 13, 14]");
        changes(() -> six(0, 9, 8, 3, 2), 4, "0[8, 9, 2, 3]-", (y, row) -> y.sortHalves(row, 2));
    }

    private void sortHalvesRefused() {
        promise(12);
        sentences("Returns how many INVERSIONS the ROW has then; -9 if at is not 0 to how many THINGS it has.");
        for (int many : new int[] {0, 1, 3, 23, 24}) {
            for (int at : new int[] {LEAST, -1, 0, many, many + 1, MOST}) {
                Risingbag x = with(4, steps(many, 30, -1));
                String what = "sortHalves(2, " + at + ") of " + many;
                if (at == 0 || at == many) {
                    c.same(what, x.sortHalves(2, at), 0);
                    c.same("this is not refused", x.house(4), 0);
                } else {
                    c.refused(x, what, () -> x.sortHalves(2, at));
                }
            }
        }
        sentences(ROW, NO_ROW);
        rows(() -> six(0, 2, 1), (x, row) -> x.sortHalves(row, 1));
        rows(() -> six(0, 2, 1), (x, row) -> x.sortHalves(row, 3));
    }

    private void sortBy() {
        promise(13);
        sentences("Sorts PAIRS by a WAY.", "- `way`: the WAY", "Returns how many INVERSIONS the ROW has then.");
        String[] rows = {
            "4[-999, -10, -9, 0, 1, 9, 999][99, 0, 50, 7, 0, 7, 50]",
            "4[999, 9, 1, 0, -9, -10, -999][50, 7, 0, 7, 50, 0, 99]",
            "4[1, -10, 0, 9, 999, -9, -999][0, 0, 7, 7, 50, 50, 99]",
            "4[-999, 999, -9, 0, 9, 1, -10][99, 50, 50, 7, 7, 0, 0]",
            "4[0, -10, 1, 999, -999, -9, 9][7, 0, 0, 50, 99, 50, 7]"};
        int[] due = {0, 21, 12, 10, 9};
        for (int way = 0; way <= 4; way++) {
            Risingbag x = pairs();
            c.same("sortBy(2, " + way + ")", x.sortBy(2, way), due[way]);
            c.same("row then", Check.row(x, 2), rows[way]);
            c.same("it is counted", x.house(3), 1);
            for (int many : new int[] {0, 1, 24}) {
                Risingbag like = new Risingbag();
                like.make(2, 4, many);
                c.same("of " + many + " like ones", like.sortBy(2, way), 0);
                c.same("it is counted", like.house(3), 1);
            }
        }
        changes(() -> six(4, 1, 3, 2), 3, "4[3, 2, 1][11, 12, 10]", (x, row) -> x.sortBy(row, 1));
    }

    private void sortByLastDigit() {
        promise(13);
        sentences("Sorts PAIRS by a WAY.", "- `way`: the WAY");
        Risingbag x = with(4, -999, 998, -1, 0, -10, 1, -2, 11, 10);
        x.sortBy(2, 4);
        c.same("text", x.text(2), "[0, -10, 10, -1, 1, 11, -2, 998, -999]");
        c.same("tags", x.tags(2), "[13, 14, 18, 12, 15, 17, 16, 11, 10]");
    }

    private static Risingbag pairs() {
        Risingbag x = with(4, 0, 999, 1, -999, -10, -9, 9);
        int[] tags = {7, 50, 0, 99, 0, 50, 7};
        for (int k = 0; k < tags.length; k++) {
            x.tag(2, k, tags[k]);
        }
        return x;
    }

    private void sortByArguments() {
        promise(13);
        sentences(ROW, NO_ROW);
        rows(() -> six(4, 2, 1), (x, row) -> x.sortBy(row, 0));
        sentences("Throws `IllegalArgumentException` if way is not 0 to 4");
        for (int way : new int[] {LEAST, -1, 0, 4, 5, MOST}) {
            Risingbag x = pairs();
            if (way >= 0 && way <= 4) {
                c.same("way " + way, Check.thrownBy(() -> x.sortBy(2, way)), "nothing");
            } else {
                c.argument(x, "way " + way, () -> x.sortBy(2, way));
            }
        }
        sentences(NO_PAIRS);
        for (int way : new int[] {0, 1, 2, 3, 4}) {
            pairsAlone((x, row) -> x.sortBy(row, way));
        }
        for (int kind : new int[] {0, 1, 2, 3}) {
            Risingbag x = zeros(kind, 0);
            c.illegalState(x, "without things", () -> x.sortBy(2, 0));
        }
    }

    private void riseOnce() {
        promise(14);
        sentences("The first two neighbours that FALL change places.");
        Risingbag x = with(4, 5, 5, 4, 3, 9, 1);
        c.same("like ones do not fall", x.rise(2), 1);
        c.same("row then", Check.row(x, 2), "4[5, 4, 5, 3, 9, 1][10, 12, 11, 13, 14, 15]");
        int[] late = steps(24, 1, 1);
        late[23] = 22;
        Risingbag last = with(0, late);
        c.same("at the last two places", last.rise(2), 22);
        c.same("its end", list(last.at(2, 22), last.at(2, 23)), "[22, 23]");
        Risingbag first = with(1, MOST, LEAST, MOST, LEAST);
        c.same("at the first two places", first.rise(2), 0);
        c.same("just these", first.text(2), list(LEAST, MOST, MOST, LEAST));
        c.same("it is not counted as sorted", first.house(3), 0);
        changes(() -> six(0, 1, 3, 2), 1, "0[1, 2, 3]-", (y, row) -> y.rise(row));
        sentences(ROW, NO_ROW);
        rows(() -> six(0, 2, 1), (y, row) -> y.rise(row));
        rows(Risingbag::new, (y, row) -> y.rise(row));
    }

    private void riseOfRising() {
        promise(14);
        sentences("Returns the place of the first of both; NONE if none FALL.");
        int[][] rising = {{}, {5}, {5, 5}, {4, 5}, steps(24, 1, 1), new int[24]};
        for (int[] values : rising) {
            for (int kind = 0; kind <= 4; kind++) {
                Risingbag x = with(kind, values);
                c.asked(x, "rise of " + list(values), -1, () -> x.rise(2));
            }
        }
        Risingbag x = with(0, 3, 2, 1);
        c.same("the places that it tells", list(x.rise(2), x.rise(2), x.rise(2), x.rise(2)), "[0, 1, 0, -1]");
    }
}
