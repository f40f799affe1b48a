/** The bounds of the promises 1 to 9: a new object, and the section of the rows. */
final class EdgesOfRows extends Edges {
    EdgesOfRows(Check c) {
        super(c);
    }

    void run() {
        newObject();
        makeBecomesZeros();
        makeArguments();
        setOneThing();
        setArguments();
        tagOneThing();
        tagArguments();
        swapTwoThings();
        swapArguments();
        addBehind();
        addToFullRow();
        addArguments();
        fillPart();
        fillRefused();
        fillArguments();
        rampValues();
        rampRefused();
        rampArguments();
        resizeRow();
        resizeRefused();
        resizeArguments();
    }

    private void newObject() {
        promise(1);
        sentences("Creates six ROWS without THINGS, of the KIND 0.");
        rows(Risingbag::new, (x, row) -> x.size(row));
        for (int row = 0; row < 6; row++) {
            Risingbag x = new Risingbag();
            c.same("row " + row, Check.row(x, row), "0[]-");
            c.same("size of row " + row, x.size(row), 0);
        }
        c.same("its house", list(Check.house(new Risingbag())), "[0, 6, 0, 0, 0, 0]");
        Risingbag first = new Risingbag();
        Risingbag second = new Risingbag();
        String before = Check.state(second);
        put(first, 0, 4, 2, 1);
        first.sort(0);
        first.knock();
        first.resize(0, -1);
        c.same("objects share nothing", Check.state(second), before);
        c.same("nor do later ones", Check.state(new Risingbag()), before);
    }

    private void makeBecomesZeros() {
        promise(2);
        sentences("A ROW becomes one of so many THINGS, all with the VALUE 0 (and the TAG 0).",
            "Returns how many it had.");
        for (int from = 0; from <= 4; from++) {
            for (int kind = 0; kind <= 4; kind++) {
                for (int had : new int[] {0, 1, 23, 24}) {
                    for (int many : new int[] {0, 1, 23, 24}) {
                        Risingbag x = with(from, steps(had, 1, 1));
                        c.same("make(2, " + kind + ", " + many + ") of " + had, x.make(2, kind, many), had);
                        String zeros = same(many, 0);
                        c.same("row then", Check.row(x, 2), kind + zeros + (kind == 4 ? zeros : "-"));
                    }
                }
            }
        }
        changes(() -> six(4, 3, 2), 2, "4[0, 0, 0][0, 0, 0]", (x, row) -> x.make(row, 4, 3));
    }

    private void makeArguments() {
        promise(2);
        sentences(ROW, NO_ROW);
        rows(() -> six(3, 9), (x, row) -> x.make(row, 0, 1));
        sentences("- `kind`: its KIND then", "- `many`: how many",
            "Throws `IllegalArgumentException` if kind is not 0 to 4, or many not 0 to 24");
        for (int kind : new int[] {LEAST, -1, 0, 1, 2, 3, 4, 5, MOST}) {
            for (int many : new int[] {LEAST, -1, 0, 1, 23, 24, 25, MOST}) {
                Risingbag x = with(3, 8, 9);
                String what = "make(2, " + kind + ", " + many + ")";
                if (kind >= 0 && kind <= 4 && many >= 0 && many <= 24) {
                    c.same(what, x.make(2, kind, many), 2);
                    c.same("kind", x.kind(2), kind);
                    c.same("size", x.size(2), many);
                } else {
                    c.argument(x, what, () -> x.make(2, kind, many));
                }
            }
        }
    }

    private void setOneThing() {
        promise(3);
        sentences("A THING gets a VALUE.", "Returns the one before.");
        for (int kind = 0; kind <= 4; kind++) {
            Risingbag x = zeros(kind, 24);
            String tags = x.tags(2);
            int least = LEAST_OF[kind];
            int most = MOST_OF[kind];
            c.same("the first place", x.set(2, 0, least), 0);
            c.same("again", x.set(2, 0, most), least);
            c.same("the same", x.set(2, 0, most), most);
            c.same("the last place", x.set(2, 23, most), 0);
            c.same("again", x.set(2, 23, least), most);
            c.same("a copy of the row", x.text(2), "[" + most + ", " + "0, ".repeat(22) + least + "]");
            c.same("the tags stay", x.tags(2), tags);
            c.same("how many stay", x.size(2), 24);
        }
        Risingbag x = with(0, -9);
        c.same("a value of -9 is told", x.set(2, 0, -1), -9);
        c.same("one of -1 too", x.set(2, 0, 0), -1);
        c.same("this is not refused", x.house(4), 0);
        changes(() -> six(4, 3, 2), 2, "4[3, -7][10, 11]", (y, row) -> y.set(row, 1, -7));
    }

    private void setArguments() {
        promise(3);
        sentences(ROW, "- `place`: its place", NO_PLACE);
        rows(() -> six(0, 1), (x, row) -> x.set(row, 0, 5));
        for (int kind = 0; kind <= 4; kind++) {
            places(kind, (x, row, place) -> x.set(row, place, 5));
        }
        sentences("- `value`: the VALUE", NO_VALUE);
        values(1, (x, row, value) -> x.set(row, 0, value));
        values(24, (x, row, value) -> x.set(row, 23, value));
    }

    private void tagOneThing() {
        promise(4);
        sentences("A THING of PAIRS gets a TAG.", "Returns the one before.");
        Risingbag x = new Risingbag();
        x.make(2, 4, 24);
        String text = x.text(2);
        c.same("the first place", x.tag(2, 0, 99), 0);
        c.same("again", x.tag(2, 0, 0), 99);
        c.same("the same", x.tag(2, 0, 0), 0);
        c.same("the last place", x.tag(2, 23, 1), 0);
        c.same("again", x.tag(2, 23, 99), 1);
        c.same("the tags", x.tags(2), "[" + "0, ".repeat(23) + "99]");
        c.same("the values stay", x.text(2), text);
        changes(() -> six(4, 3, 2), 11, "4[3, 2][10, 55]", (y, row) -> y.tag(row, 1, 55));
    }

    private void tagArguments() {
        promise(4);
        sentences(ROW, "- `place`: its place", NO_PLACE);
        rows(() -> six(4, 1), (x, row) -> x.tag(row, 0, 5));
        places(4, (x, row, place) -> x.tag(row, place, 5));
        sentences("- `tag`: the TAG", "Throws `IllegalArgumentException` if tag is not 0 to 99");
        for (int tag : new int[] {LEAST, -1, 0, 1, 98, 99, 100, MOST}) {
            Risingbag x = with(4, 3, 2, 1);
            if (tag >= 0 && tag <= 99) {
                c.same("tag " + tag, x.tag(2, 1, tag), 11);
                c.same("tags", x.tags(2), list(10, tag, 12));
            } else {
                c.argument(x, "tag " + tag, () -> x.tag(2, 1, tag));
            }
        }
        sentences(NO_PAIRS);
        pairsAlone((x, row) -> x.tag(row, 0, 5));
    }

    private void swapTwoThings() {
        promise(5);
        sentences("Two THINGS change places.", "- `other`: a place, or the same", "Returns INVERSIONS then.");
        Risingbag x = with(4, steps(24, 1, 1));
        c.same("the same place", x.swap(2, 7, 7), 0);
        c.same("nothing changes", x.text(2), list(steps(24, 1, 1)));
        c.same("the first and the last", x.swap(2, 0, 23), 45);
        c.same("its ends", list(x.at(2, 0), x.at(2, 23), x.tagAt(2, 0), x.tagAt(2, 23)), "[24, 1, 33, 10]");
        c.same("and back", x.swap(2, 23, 0), 0);
        c.same("neighbours", x.swap(2, 22, 23), 1);
        Risingbag y = with(1, LEAST, MOST);
        c.same("the least and the most", y.swap(2, 0, 1), 1);
        Risingbag z = with(4, 5, 5);
        c.same("like values", z.swap(2, 0, 1), 0);
        c.same("their tags change places", z.tags(2), "[11, 10]");
        Risingbag one = with(0, 5);
        c.same("of one thing", one.swap(2, 0, 0), 0);
        changes(() -> six(4, 1, 2, 3), 3, "4[3, 2, 1][12, 11, 10]", (w, row) -> w.swap(row, 0, 2));
    }

    private void swapArguments() {
        promise(5);
        sentences(ROW, "- `place`: a place", NO_PLACE);
        rows(() -> six(0, 1), (x, row) -> x.swap(row, 0, 0));
        places(4, (x, row, place) -> x.swap(row, place, 0));
        places(4, (x, row, place) -> x.swap(row, 0, place));
        places(0, (x, row, place) -> x.swap(row, place, place));
    }

    private void addBehind() {
        promise(6);
        sentences("A VALUE comes behind a ROW (with the TAG 0).");
        for (int kind = 0; kind <= 4; kind++) {
            Risingbag x = zeros(kind, 0);
            c.same("to a row without things", x.add(2, MOST_OF[kind]), 1);
            c.same("once more", x.add(2, LEAST_OF[kind]), 2);
            c.same("text", x.text(2), list(MOST_OF[kind], LEAST_OF[kind]));
            c.same("tags", x.tags(2), kind == 4 ? "[0, 0]" : "-");
            c.same("kind", x.kind(2), kind);
        }
        changes(() -> six(4, 3), 2, "4[3, 9][10, 0]", (x, row) -> x.add(row, 9));
    }

    private void addToFullRow() {
        promise(6);
        sentences("Returns how many THINGS it has then; -9 if it has 24.");
        for (int kind = 0; kind <= 4; kind++) {
            Risingbag x = zeros(kind, 22);
            c.same("to 22", x.add(2, 1), 23);
            c.same("to 23", x.add(2, 2), 24);
            c.refused(x, "to 24", () -> x.add(2, 3));
            c.refused(x, "to 24 again", () -> x.add(2, 3));
            x.resize(2, 23);
            c.same("to 23 again", x.add(2, 4), 24);
            c.same("the last ones", list(x.at(2, 22), x.at(2, 23)), "[1, 4]");
        }
    }

    private void addArguments() {
        promise(6);
        sentences(ROW, NO_ROW);
        rows(() -> six(0, 1), (x, row) -> x.add(row, 5));
        rows(() -> six(0, new int[24]), (x, row) -> x.add(row, 5));
        sentences("- `value`: the VALUE", NO_VALUE);
        values(0, (x, row, value) -> x.add(row, value));
        values(23, (x, row, value) -> x.add(row, value));
        values(24, (x, row, value) -> x.add(row, value));
    }

    private void fillPart() {
        promise(7);
        sentences("All THINGS of a PART get a VALUE (TAGS stay).", "- `from`: the first place",
            "- `to`: behind the last one");
        for (int many : new int[] {0, 1, 3, 24}) {
            for (int from = 0; from <= many; from++) {
                for (int to = from; to <= many; to++) {
                    int[] values = steps(many, 50, -1);
                    Risingbag x = with(4, values);
                    String tags = x.tags(2);
                    c.same("fill from " + from + " to " + to, x.fill(2, from, to, -999), to - from);
                    java.util.Arrays.fill(values, from, to, -999);
                    c.same("text", x.text(2), list(values));
                    c.same("tags stay", x.tags(2), tags);
                }
            }
        }
        changes(() -> six(4, 1, 2, 3), 2, "4[7, 7, 3][10, 11, 12]", (x, row) -> x.fill(row, 0, 2, 7));
    }

    private void fillRefused() {
        promise(7);
        sentences("Returns how many these are; -9 if from is above to, or there is no such PART.");
        parts(0, (x, row, from, to) -> x.fill(row, from, to, 5));
        parts(4, (x, row, from, to) -> x.fill(row, from, to, 5));
        Risingbag x = with(0, 1, 2, 3);
        c.same("an empty part ahead", x.fill(2, 0, 0, 9), 0);
        c.same("an empty part at the end", x.fill(2, 3, 3, 9), 0);
        c.same("the whole row", x.fill(2, 0, 3, 9), 3);
        c.same("text", x.text(2), "[9, 9, 9]");
    }

    private void fillArguments() {
        promise(7);
        sentences(ROW, NO_ROW);
        rows(() -> six(0, 1, 2), (x, row) -> x.fill(row, 0, 2, 5));
        rows(() -> six(0, 1, 2), (x, row) -> x.fill(row, 2, 1, 5));
        sentences("- `value`: the VALUE", NO_VALUE);
        values(3, (x, row, value) -> x.fill(row, 0, 3, value));
        values(0, (x, row, value) -> x.fill(row, 0, 0, value));
        values(3, (x, row, value) -> x.fill(row, 0, 4, value));
    }

    private void rampValues() {
        promise(8);
        sentences("A PLAIN ROW gets the VALUE (first + step * k) modulo bound at each place k (below 0, if that is).");
        for (int first : new int[] {-9999, -9998, -1, 0, 1, 9998, 9999}) {
            for (int step : new int[] {-9999, -1, 0, 1, 9999}) {
                for (int bound : new int[] {1, 2, 7, 9998, 9999}) {
                    Risingbag x = with(0, new int[24]);
                    c.same("ramp", x.ramp(2, first, step, bound), 24);
                    int[] due = new int[24];
                    for (int k = 0; k < 24; k++) {
                        int whole = first + step * k;
                        due[k] = whole - whole / bound * bound;
                    }
                    c.same("ramp(2, " + first + ", " + step + ", " + bound + ")", x.text(2), list(due));
                }
            }
        }
        Risingbag x = with(0, 5, 5, 5, 5, 5, 5);
        x.ramp(2, -3, 1, 3);
        c.same("it is below 0 as the sum is", x.text(2), "[0, -2, -1, 0, 1, 2]");
        changes(() -> six(0, 5, 5, 5), 3, "0[9, 0, 1]-", (y, row) -> y.ramp(row, 9, 1, 10));
    }

    private void rampRefused() {
        promise(8);
        sentences("Returns how many THINGS it has; -9 if the KIND is not 0.");
        for (int many : new int[] {0, 1, 23, 24}) {
            Risingbag plain = with(0, steps(many, 1, 1));
            c.same("of kind 0", plain.ramp(2, 5, 5, 100), many);
            c.same("this is not refused", plain.house(4), 0);
            for (int kind = 1; kind <= 4; kind++) {
                Risingbag x = with(kind, steps(many, 1, 1));
                c.refused(x, "of kind " + kind, () -> x.ramp(2, 5, 5, 100));
            }
        }
    }

    private void rampArguments() {
        promise(8);
        sentences(ROW, NO_ROW);
        rows(() -> six(0, 1, 2), (x, row) -> x.ramp(row, 1, 1, 5));
        rows(() -> six(1, 1, 2), (x, row) -> x.ramp(row, 1, 1, 5));
        sentences("- `first`: a number", "- `step`: a number", "- `bound`: a number",
            "Throws `IllegalArgumentException` if first or step is not -9999 to 9999, or bound not 1 to 9999");
        for (int kind : new int[] {0, 1}) {
            for (int number : new int[] {LEAST, -10000, -9999, 0, 9999, 10000, MOST}) {
                boolean good = number >= -9999 && number <= 9999;
                rampWith(kind, number, 0, 7, good);
                rampWith(kind, 0, number, 7, good);
            }
            for (int bound : new int[] {LEAST, -9999, -1, 0, 1, 2, 9999, 10000, MOST}) {
                rampWith(kind, 1, 1, bound, bound >= 1 && bound <= 9999);
            }
        }
    }

    private void rampWith(int kind, int first, int step, int bound, boolean good) {
        Risingbag x = with(kind, 4, 5);
        String what = "ramp(2, " + first + ", " + step + ", " + bound + ") of kind " + kind;
        if (good) {
            c.same(what, x.ramp(2, first, step, bound), kind == 0 ? 2 : -9);
        } else {
            c.argument(x, what, () -> x.ramp(2, first, step, bound));
        }
    }

    private void resizeRow() {
        promise(9);
        sentences("A ROW becomes one with so many THINGS: the first ones of it, and behind these, if it has fewer, "
            + "such with the VALUE 0 (and the TAG 0).", "- `many`: how many, from NONE on");
        for (int kind = 0; kind <= 4; kind++) {
            for (int had : new int[] {0, 1, 5, 23, 24}) {
                for (int many : new int[] {0, 1, 4, 5, 6, 23, 24}) {
                    Risingbag x = with(kind, steps(had, 1, 1));
                    c.same("resize(2, " + many + ") of " + had, x.resize(2, many), had);
                    int[] values = java.util.Arrays.copyOf(steps(had, 1, 1), many);
                    int[] tags = java.util.Arrays.copyOf(steps(had, 10, 1), many);
                    c.same("row then", Check.row(x, 2), kind + list(values) + (kind == 4 ? list(tags) : "-"));
                    c.same("this is not refused", x.house(4), 0);
                }
            }
        }
        changes(() -> six(4, 3, 2), 2, "4[3, 2, 0][10, 11, 0]", (x, row) -> x.resize(row, 3));
    }

    private void resizeRefused() {
        promise(9);
        sentences("Returns how many it had; -9 if many is NONE.");
        for (int kind = 0; kind <= 4; kind++) {
            for (int had : new int[] {0, 1, 24}) {
                Risingbag x = with(kind, steps(had, 1, 1));
                c.refused(x, "resize(2, -1) of " + had, () -> x.resize(2, -1));
            }
        }
    }

    private void resizeArguments() {
        promise(9);
        sentences(ROW, NO_ROW);
        rows(() -> six(0, 1, 2), (x, row) -> x.resize(row, 5));
        rows(() -> six(0, 1, 2), (x, row) -> x.resize(row, -1));
        sentences("Throws `IllegalArgumentException` if many is not NONE to 24");
        for (int many : new int[] {LEAST, -9, -2, 25, MOST}) {
            for (int had : new int[] {0, 1, 24}) {
                Risingbag x = with(4, steps(had, 1, 1));
                c.argument(x, "resize(2, " + many + ") of " + had, () -> x.resize(2, many));
            }
        }
    }
}
