/** Promises 1 to 9: a new object, and the section of the rows. */
final class RowsTest {
    private static final int LEAST = Integer.MIN_VALUE;
    private static final int MOST = Integer.MAX_VALUE;
    private static final int[] LEAST_OF = {LEAST, LEAST, -128, 0, -999};
    private static final int[] MOST_OF = {MOST, MOST, 127, 255, 999};

    private final Check c = new Check("RowsTest");

    public static void main(String[] args) {
        RowsTest t = new RowsTest();
        t.newObject();
        t.make();
        t.set();
        t.tag();
        t.swap();
        t.add();
        t.fill();
        t.ramp();
        t.resize();
        t.c.end();
    }

    private void newObject() {
        c.promise(1);
        Risingbag x = new Risingbag();
        c.same("all rows", Check.things(x), "0[]- 0[]- 0[]- 0[]- 0[]- 0[]- ");
        int[] due = {0, 6, 0, 0, 0, 0};
        for (int what = 0; what < 6; what++) {
            c.same("house " + what, x.house(what), due[what]);
        }
        x.add(0, 7);
        c.same("another object has rows of its own", new Risingbag().size(0), 0);
    }

    private void make() {
        c.promise(2);
        Risingbag x = new Risingbag();
        c.same("make(0, 4, 3)", x.make(0, 4, 3), 0);
        Check.put(x, 0, 4, 5, 6, 7);
        Check.label(x, 0, 1, 2, 3);
        c.same("make(0, 4, 24)", x.make(0, 4, 24), 3);
        c.same("every value is 0", x.likes(0, 0), 24);
        c.same("every tag is 0", x.tags(0), "[" + "0, ".repeat(23) + "0]");
        c.same("make(0, 2, 0)", x.make(0, 2, 0), 24);
        c.same("its kind", x.kind(0), 2);
        c.same("its size", x.size(0), 0);
        for (int kind = 0; kind <= 4; kind++) {
            c.same("make(5, .., 1)", x.make(5, kind, 1), kind == 0 ? 0 : 1);
            c.same("kind", x.kind(5), kind);
            c.same("text", x.text(5), "[0]");
        }
        c.same("nothing was refused", x.house(4), 0);
        c.index(x, "make(-1, 0, 0)", () -> x.make(-1, 0, 0));
        c.index(x, "make(6, 9, 99)", () -> x.make(6, 9, 99));
        c.argument(x, "make(5, -1, 0)", () -> x.make(5, -1, 0));
        c.argument(x, "make(5, 5, 0)", () -> x.make(5, 5, 0));
        c.argument(x, "make(5, 0, -1)", () -> x.make(5, 0, -1));
        c.argument(x, "make(5, 0, 25)", () -> x.make(5, 0, 25));
        c.argument(x, "make(5, 0, least)", () -> x.make(5, 0, LEAST));
    }

    private void set() {
        c.promise(3);
        for (int kind = 0; kind <= 4; kind++) {
            Risingbag x = Check.with(1, kind, 1, 2, 3);
            int least = LEAST_OF[kind];
            int most = MOST_OF[kind];
            c.same("set to the least", x.set(1, 1, least), 2);
            c.same("set to the most", x.set(1, 1, most), least);
            c.same("text", x.text(1), "[1, " + most + ", 3]");
            if (kind >= 2) {
                c.argument(x, "set below the least", () -> x.set(1, 1, least - 1));
                c.argument(x, "set above the most", () -> x.set(1, 1, most + 1));
                c.index(x, "place ahead of value", () -> x.set(1, 3, most + 1));
            }
        }
        Risingbag x = Check.with(0, 4, -9, 4);
        Check.label(x, 0, 11, 12);
        c.same("set(0, 0, 5)", x.set(0, 0, 5), -9);
        c.same("a value of -9 is no refusal", x.house(4), 0);
        c.same("the tag stays", x.tags(0), "[11, 12]");
        c.index(x, "set(-1, 0, 0)", () -> x.set(-1, 0, 0));
        c.index(x, "set(6, 0, 0)", () -> x.set(6, 0, 0));
        c.index(x, "set(0, -1, 0)", () -> x.set(0, -1, 0));
        c.index(x, "set(0, 2, 0)", () -> x.set(0, 2, 0));
        c.index(x, "set(1, 0, 0)", () -> x.set(1, 0, 0));
    }

    private void tag() {
        c.promise(4);
        Risingbag x = Check.with(2, 4, 3, 1);
        c.same("tag(2, 0, 99)", x.tag(2, 0, 99), 0);
        c.same("tag(2, 0, 0)", x.tag(2, 0, 0), 99);
        c.same("tag(2, 1, 7)", x.tag(2, 1, 7), 0);
        c.same("tags", x.tags(2), "[0, 7]");
        c.same("the values stay", x.text(2), "[3, 1]");
        x.make(1, 4, 24);
        c.same("tag of the last place", x.tag(1, 23, 5), 0);
        c.same("tags", x.tags(1), "[" + "0, ".repeat(23) + "5]");
        c.same("tag of the last place", x.tag(1, 23, 6), 5);
        c.index(x, "tag(6, 0, 0)", () -> x.tag(6, 0, 0));
        c.index(x, "tag(-1, 0, 0)", () -> x.tag(-1, 0, 0));
        c.index(x, "tag(2, 2, 100)", () -> x.tag(2, 2, 100));
        c.index(x, "tag(2, -1, 0)", () -> x.tag(2, -1, 0));
        c.argument(x, "tag(2, 0, 100)", () -> x.tag(2, 0, 100));
        c.argument(x, "tag(2, 0, -1)", () -> x.tag(2, 0, -1));
        for (int kind = 0; kind < 4; kind++) {
            Risingbag y = Check.with(3, kind, 1);
            c.illegalState(y, "tag(3, 0, 1)", () -> y.tag(3, 0, 1));
            c.argument(y, "tag(3, 0, 100)", () -> y.tag(3, 0, 100));
            c.index(y, "tag(3, 1, 1)", () -> y.tag(3, 1, 1));
        }
    }

    private void swap() {
        c.promise(5);
        Risingbag x = Check.with(0, 4, 1, 2, 3, 4);
        Check.label(x, 0, 10, 20, 30, 40);
        c.same("swap(0, 0, 3)", x.swap(0, 0, 3), 5);
        c.same("text", x.text(0), "[4, 2, 3, 1]");
        c.same("tags go with their things", x.tags(0), "[40, 20, 30, 10]");
        c.same("swap(0, 2, 1)", x.swap(0, 2, 1), 6);
        c.same("swap(0, 2, 2)", x.swap(0, 2, 2), 6);
        c.same("text", x.text(0), "[4, 3, 2, 1]");
        c.index(x, "swap(0, 4, 0)", () -> x.swap(0, 4, 0));
        c.index(x, "swap(0, 0, 4)", () -> x.swap(0, 0, 4));
        c.index(x, "swap(0, -1, 0)", () -> x.swap(0, -1, 0));
        c.index(x, "swap(0, 0, -1)", () -> x.swap(0, 0, -1));
        c.index(x, "swap(6, 0, 0)", () -> x.swap(6, 0, 0));
        c.index(x, "swap(-1, 0, 0)", () -> x.swap(-1, 0, 0));
        c.index(x, "swap(1, 0, 0)", () -> x.swap(1, 0, 0));
    }

    private void add() {
        c.promise(6);
        Risingbag x = new Risingbag();
        x.make(0, 4, 2);
        Check.label(x, 0, 8, 9);
        x.resize(0, 1);
        c.same("add(0, -999)", x.add(0, -999), 2);
        c.same("text", x.text(0), "[0, -999]");
        c.same("the tag is 0", x.tags(0), "[8, 0]");
        for (int k = 3; k <= 24; k++) {
            c.same("add", x.add(0, 1), k);
        }
        c.same("add to 24", x.add(0, 1), -9);
        c.same("size", x.size(0), 24);
        c.same("refusals", x.house(4), 1);
        c.argument(x, "an exception goes ahead of -9", () -> x.add(0, 1000));
        c.index(x, "add(6, 0)", () -> x.add(6, 0));
        c.index(x, "add(-1, 0)", () -> x.add(-1, 0));
        for (int kind = 0; kind <= 4; kind++) {
            int least = LEAST_OF[kind];
            int most = MOST_OF[kind];
            Risingbag y = Check.with(1, kind);
            c.same("add the least", y.add(1, least), 1);
            c.same("add the most", y.add(1, most), 2);
            c.same("text", y.text(1), "[" + least + ", " + most + "]");
            if (kind >= 2) {
                c.argument(y, "add below the least", () -> y.add(1, least - 1));
                c.argument(y, "add above the most", () -> y.add(1, most + 1));
            }
        }
    }

    private void fill() {
        c.promise(7);
        Risingbag x = Check.with(3, 4, 1, 2, 3, 4);
        Check.label(x, 3, 5, 6, 7, 8);
        c.same("fill(3, 1, 3, 9)", x.fill(3, 1, 3, 9), 2);
        c.same("text", x.text(3), "[1, 9, 9, 4]");
        c.same("tags stay", x.tags(3), "[5, 6, 7, 8]");
        c.same("fill(3, 4, 4, 0)", x.fill(3, 4, 4, 0), 0);
        c.same("fill(3, 0, 0, 0)", x.fill(3, 0, 0, 0), 0);
        c.same("text", x.text(3), "[1, 9, 9, 4]");
        c.same("fill(3, 0, 4, -999)", x.fill(3, 0, 4, -999), 4);
        c.same("text", x.text(3), "[-999, -999, -999, -999]");
        c.same("nothing refused", x.house(4), 0);
        String things = Check.things(x);
        c.same("fill(3, 3, 2, 0)", x.fill(3, 3, 2, 0), -9);
        c.same("fill(3, -1, 2, 0)", x.fill(3, -1, 2, 0), -9);
        c.same("fill(3, 0, 5, 0)", x.fill(3, 0, 5, 0), -9);
        c.same("fill(3, 5, 5, 0)", x.fill(3, 5, 5, 0), -9);
        c.same("fill(3, least, most, 0)", x.fill(3, LEAST, MOST, 0), -9);
        c.same("refusals", x.house(4), 5);
        c.same("nothing changes", Check.things(x), things);
        c.argument(x, "fill(3, 3, 2, 1000)", () -> x.fill(3, 3, 2, 1000));
        c.argument(x, "fill(3, 0, 1, -1000)", () -> x.fill(3, 0, 1, -1000));
        c.index(x, "fill(6, 0, 0, 0)", () -> x.fill(6, 0, 0, 0));
        c.index(x, "fill(-1, 0, 0, 0)", () -> x.fill(-1, 0, 0, 0));
    }

    private void ramp() {
        c.promise(8);
        Risingbag x = new Risingbag();
        x.make(0, 0, 6);
        c.same("ramp(0, 7, 5, 10)", x.ramp(0, 7, 5, 10), 6);
        c.same("text", x.text(0), "[7, 2, 7, 2, 7, 2]");
        c.same("ramp(0, 3, -4, 5)", x.ramp(0, 3, -4, 5), 6);
        c.same("below 0", x.text(0), "[3, -1, 0, -4, -3, -2]");
        c.same("ramp(0, 9999, 9999, 9999)", x.ramp(0, 9999, 9999, 9999), 6);
        c.same("text", x.text(0), "[0, 0, 0, 0, 0, 0]");
        c.same("ramp(0, -9999, -9999, 9998)", x.ramp(0, -9999, -9999, 9998), 6);
        c.same("text", x.text(0), "[-1, -2, -3, -4, -5, -6]");
        c.same("ramp(0, 5, 0, 1)", x.ramp(0, 5, 0, 1), 6);
        c.same("text", x.text(0), "[0, 0, 0, 0, 0, 0]");
        c.same("a row without things", x.ramp(1, 5, 0, 1), 0);
        c.argument(x, "first too low", () -> x.ramp(0, -10000, 0, 1));
        c.argument(x, "first too high", () -> x.ramp(0, 10000, 0, 1));
        c.argument(x, "step too low", () -> x.ramp(0, 0, -10000, 1));
        c.argument(x, "step too high", () -> x.ramp(0, 0, 10000, 1));
        c.argument(x, "bound 0", () -> x.ramp(0, 0, 0, 0));
        c.argument(x, "bound below 0", () -> x.ramp(0, 0, 0, -1));
        c.argument(x, "bound too high", () -> x.ramp(0, 0, 0, 10000));
        c.index(x, "ramp(6, 10000, 0, 0)", () -> x.ramp(6, 10000, 0, 0));
        c.index(x, "ramp(-1, 0, 0, 1)", () -> x.ramp(-1, 0, 0, 1));
        for (int kind = 1; kind <= 4; kind++) {
            Risingbag y = Check.with(2, kind, 4, 5);
            c.refused(y, "ramp of kind " + kind, () -> y.ramp(2, 1, 1, 100));
            c.argument(y, "an exception goes ahead of -9", () -> y.ramp(2, 1, 1, 0));
        }
    }

    private void resize() {
        c.promise(9);
        Risingbag x = Check.with(5, 4, 1, 2, 3);
        Check.label(x, 5, 4, 5, 6);
        c.same("resize(5, 3)", x.resize(5, 3), 3);
        c.same("text", x.text(5), "[1, 2, 3]");
        c.same("tags", x.tags(5), "[4, 5, 6]");
        c.same("resize(5, 1)", x.resize(5, 1), 3);
        c.same("resize(5, 3)", x.resize(5, 3), 1);
        c.same("text", x.text(5), "[1, 0, 0]");
        c.same("tags", x.tags(5), "[4, 0, 0]");
        c.same("kind", x.kind(5), 4);
        c.same("resize(5, -1)", x.resize(5, -1), -9);
        c.same("size", x.size(5), 3);
        c.same("refusals", x.house(4), 1);
        c.same("resize(5, 24)", x.resize(5, 24), 3);
        c.same("resize(5, 0)", x.resize(5, 0), 24);
        c.same("text", x.text(5), "[]");
        c.same("resize(5, 0)", x.resize(5, 0), 0);
        c.argument(x, "resize(5, -2)", () -> x.resize(5, -2));
        c.argument(x, "resize(5, 25)", () -> x.resize(5, 25));
        c.index(x, "resize(6, 25)", () -> x.resize(6, 25));
        c.index(x, "resize(-1, -1)", () -> x.resize(-1, -1));
    }
}
