/** Promises 42 to 45: the section of the whole. */
final class WholeTest {
    private final Check c = new Check("WholeTest");

    public static void main(String[] args) {
        WholeTest t = new WholeTest();
        t.houseOfRows();
        t.houseOfSortings();
        t.houseOfRefusals();
        t.knock();
        t.isSound();
        t.digest();
        t.c.end();
    }

    private static Risingbag mixed() {
        Risingbag x = Check.with(0, 0, 7, -3, Integer.MIN_VALUE, 7, Integer.MAX_VALUE);
        Check.put(x, 1, 1, 1, 2, 3, 4);
        Check.put(x, 2, 2, 127, -128, 0);
        Check.put(x, 4, 4, 12, -2, 30, -2, 999, 12);
        Check.label(x, 4, 9, 8, 99, 0, 5, 10);
        x.copy(4, 5);
        x.sort(5);
        return x;
    }

    private void houseOfRows() {
        c.promise(42);
        Risingbag x = mixed();
        c.same("things of all rows", x.house(0), 5 + 4 + 3 + 0 + 6 + 6);
        c.same("rising rows", x.house(1), 3);
        c.same("inversions of all rows", x.house(2), 3 + 0 + 2 + 0 + 5 + 0);
        c.argument(x, "house(-1)", () -> x.house(-1));
        c.argument(x, "house(6)", () -> x.house(6));
        c.argument(x, "house(least)", () -> x.house(Integer.MIN_VALUE));
    }

    private void houseOfSortings() {
        Risingbag x = Check.with(0, 4, 3, 2, 1);
        x.rise(0);
        x.swap(0, 0, 1);
        c.same("none of these", x.house(3), 0);
        x.sort(0);
        c.same("sort", x.house(3), 1);
        x.sortPart(0, 0, 2);
        c.same("sortPart", x.house(3), 2);
        x.sortHalves(0, 1);
        c.same("sortHalves", x.house(3), 3);
        x.sortBy(0, 2);
        c.same("sortBy", x.house(3), 4);
        x.merge(0, 0);
        c.same("merge", x.house(3), 5);
        x.sortPart(0, 2, 1);
        x.sortHalves(0, 25);
        x.merge(0, 1);
        c.same("refused ones", x.house(3), 5);
        Check.thrownBy(() -> x.sort(6));
        Check.thrownBy(() -> x.sortBy(0, 5));
        Check.thrownBy(() -> x.sortBy(1, 0));
        c.same("ones that throw", x.house(3), 5);
        x.nth(0, 0);
        x.median(0);
        x.mode(0);
        x.unlike(0);
        x.isSound();
        x.digest();
        c.same("what is asked", x.house(3), 5);
    }

    private void houseOfRefusals() {
        Risingbag x = new Risingbag();
        x.make(0, 1, 24);
        x.add(0, 0);
        c.same("add", x.house(4), 1);
        x.fill(0, 1, 0, 0);
        c.same("fill", x.house(4), 2);
        x.ramp(0, 0, 0, 1);
        c.same("ramp", x.house(4), 3);
        x.resize(0, -1);
        c.same("resize", x.house(4), 4);
        x.sortPart(0, 1, 0);
        c.same("sortPart", x.house(4), 5);
        x.sortHalves(0, -1);
        c.same("sortHalves", x.house(4), 6);
        x.copyPart(0, 1, 0, 1);
        c.same("copyPart", x.house(4), 7);
        x.merge(0, 0);
        c.same("merge", x.house(4), 8);
        c.same("compare", x.compare(0, 1), -9);
        c.same("mismatch", x.mismatch(0, 1), -9);
        c.same("hash", x.hash(0), -9);
        c.same("searchPart", x.searchPart(0, 1, 0, 0), -9999);
        x.set(0, 0, -9);
        c.same("a value of -9", x.set(0, 0, 0), -9);
        c.same("these are not counted", x.house(4), 8);
    }

    private void knock() {
        c.promise(43);
        Risingbag x = mixed();
        String things = Check.things(x);
        for (int k = 1; k <= 9; k++) {
            c.same("knock()", x.knock(), k);
            c.same("house(5)", x.house(5), k);
        }
        c.same("nothing else changes", Check.things(x), things);
        c.same("of another object", new Risingbag().knock(), 1);
    }

    private void isSound() {
        c.promise(44);
        c.same("a new object", new Risingbag().isSound(), true);
        Risingbag x = mixed();
        String before = Check.state(x);
        c.same("a mixed one", x.isSound(), true);
        c.same("nothing changes", Check.state(x), before);
        for (int way = 0; way <= 4; way++) {
            x.sortBy(4, way);
            c.same("by the way " + way, x.isSound(), true);
        }
        for (int row = 0; row < 6; row++) {
            x.make(row, row == 5 ? 4 : row, 24);
            x.ramp(row, 9999, -7919, 31);
        }
        c.same("a full one", x.isSound(), true);
    }

    private void digest() {
        c.promise(45);
        Risingbag x = new Risingbag();
        c.same("of a new object", x.digest(), Checksum.of(x).longValue());
        Risingbag y = mixed();
        c.same("of a mixed one", y.digest(), Checksum.of(y).longValue());
        c.same("asked again", y.digest(), Checksum.of(y).longValue());
        Risingbag z = mixed();
        z.knock();
        z.fill(0, 1, 0, 0);
        c.same("with a knock and a refusal", z.digest(), Checksum.of(z).longValue());
        String things = Check.things(z);
        z.digest();
        c.same("nothing changes", Check.things(z), things);
    }
}
