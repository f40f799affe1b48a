import java.util.function.Consumer;

/** The bounds of the promises 42 to 45: the section of the whole. */
final class EdgesOfWhole extends Edges {
    private static final String WHAT = "- `what`: 0 THINGS of all ROWS, 1 ROWS that are RISING, 2 INVERSIONS of all "
        + "ROWS, 3 how often something was sorted (each call of the section «sorting» but rise(), and merge(), that "
        + "was not refused, counts 1), 4 how often one of the sections «rows» and «sorting», copyPart() or merge() "
        + "told REFUSED, 5 how often one knocked";
    private static final String SOUND = "Returns whether all of this is so, of each ROW: a copy of it that is sorted "
        + "is RISING, has the same BAG, is the same if its halves were sorted ahead, or it was sorted once more, is "
        + "not GREATER by ORDER than the ROW, and just equal to it, if that is RISING; of each of its VALUES "
        + "SMALLER, LIKES and GREATER are all, and in the sorted copy the search tells SMALLER; INVERSIONS are those "
        + "at all places together.";
    private static final String CHECKSUM = "Computes a checksum. A number d starts with 7806; then d becomes "
        + "d * 31 + v, which wraps around as a 64-bit integer, for each v in this order: house() of 0 to 5; ROW by "
        + "ROW kind(), size(), the codes of the signs of text(), of tags(), 1 if isRising(), otherwise 0, "
        + "inversions(), unlike(), place by place nth(), for each ROW o compare(that ROW, o), mismatch(that ROW, o); "
        + "1 if isSound(), otherwise 0.";

    EdgesOfWhole(Check c) {
        super(c);
    }

    void run() {
        houseOfThings();
        houseOfSortings();
        houseOfRefusals();
        houseArgument();
        knock();
        isSound();
        digest();
        digestWrapsAround();
    }

    private void house(String what, Risingbag x, int number, int due) {
        c.asked(x, what + ", house(" + number + ")", due, () -> x.house(number));
    }

    private void houseOfThings() {
        promise(42);
        sentences(WHAT, "Returns that.");
        Risingbag none = new Risingbag();
        Risingbag full = six(4, steps(24, 50, -1));
        Risingbag one = put(new Risingbag(), 5, 3, 9);
        Risingbag fall = put(put(new Risingbag(), 0, 1, MOST, LEAST), 5, 4, 3, 2, 2, 1);
        house("none", none, 0, 0);
        house("full", full, 0, 144);
        house("one", one, 0, 1);
        house("fall", fall, 0, 6);
        house("none", none, 1, 6);
        house("full", full, 1, 0);
        house("one", one, 1, 6);
        house("fall", fall, 1, 4);
        house("none", none, 2, 0);
        house("full", full, 2, 1656);
        house("one", one, 2, 0);
        house("fall", fall, 2, 6);
    }

    /** How often something was sorted, and refused, after the call. */
    private void counts(String what, Risingbag x, Runnable call, int sortings, int refusals) {
        Check.thrownBy(call);
        c.same(what, list(x.house(3), x.house(4)), list(sortings, refusals));
    }

    private void houseOfSortings() {
        promise(42);
        sentences(WHAT, "Returns that.");
        Risingbag x = put(new Risingbag(), 2, 4, 3, 2, 1);
        int refusals = x.house(4);
        c.same("what was built with", refusals, 0);
        counts("sort", x, () -> x.sort(2), 1, 0);
        counts("sort of a rising row", x, () -> x.sort(2), 2, 0);
        counts("sort of nothing", x, () -> x.sort(0), 3, 0);
        counts("sortPart", x, () -> x.sortPart(2, 0, 2), 4, 0);
        counts("sortPart of nothing", x, () -> x.sortPart(0, 0, 0), 5, 0);
        counts("sortHalves", x, () -> x.sortHalves(2, 1), 6, 0);
        counts("sortHalves of nothing", x, () -> x.sortHalves(0, 0), 7, 0);
        counts("sortBy", x, () -> x.sortBy(2, 4), 8, 0);
        counts("merge", x, () -> x.merge(2, 2), 9, 0);
        counts("merge of nothing", x, () -> x.merge(0, 0), 10, 0);
        counts("rise", x, () -> x.rise(2), 10, 0);
        counts("copy", x, () -> x.copy(2, 3), 10, 0);
        counts("copyPart", x, () -> x.copyPart(2, 0, 1, 3), 10, 0);
        counts("swap", x, () -> x.swap(2, 0, 1), 10, 0);
        counts("nth", x, () -> x.nth(2, 0), 10, 0);
        counts("median", x, () -> x.median(2), 10, 0);
        counts("unlike", x, () -> x.unlike(2), 10, 0);
        counts("mode", x, () -> x.mode(2), 10, 0);
        counts("areAlike", x, () -> x.areAlike(2, 3), 10, 0);
        counts("isSound", x, () -> x.isSound(), 10, 0);
        counts("digest", x, () -> x.digest(), 10, 0);
        counts("sort that throws", x, () -> x.sort(6), 10, 0);
        counts("sortPart that throws", x, () -> x.sortPart(6, 0, 0), 10, 0);
        counts("sortHalves that throws", x, () -> x.sortHalves(-1, 0), 10, 0);
        counts("sortBy of no such row", x, () -> x.sortBy(6, 0), 10, 0);
        counts("sortBy of no such way", x, () -> x.sortBy(2, 5), 10, 0);
        counts("sortBy of no pairs", x, () -> x.sortBy(0, 0), 10, 0);
        counts("merge that throws", x, () -> x.merge(2, 6), 10, 0);
        counts("sortPart that is refused", x, () -> x.sortPart(2, 1, 0), 10, 1);
        counts("sortHalves that is refused", x, () -> x.sortHalves(2, 7), 10, 2);
        counts("merge that is refused", x, () -> x.merge(2, 0), 10, 3);
    }

    private void houseOfRefusals() {
        promise(42);
        sentences(WHAT, "Returns that.");
        Risingbag x = new Risingbag();
        x.make(2, 1, 24);
        counts("make", x, () -> x.make(2, 1, 24), 0, 0);
        counts("add to 24", x, () -> x.add(2, 0), 0, 1);
        counts("fill of no part", x, () -> x.fill(2, 1, 0, 0), 0, 2);
        counts("ramp of no plain row", x, () -> x.ramp(2, 0, 0, 1), 0, 3);
        counts("resize to NONE", x, () -> x.resize(2, -1), 0, 4);
        counts("sortPart of no part", x, () -> x.sortPart(2, 24, 25), 0, 5);
        counts("sortHalves at no place", x, () -> x.sortHalves(2, 25), 0, 6);
        counts("copyPart of no part", x, () -> x.copyPart(2, 25, 25, 2), 0, 7);
        counts("copyPart of more than 24", x, () -> x.copyPart(2, 0, 25, 2), 0, 8);
        counts("merge of more than 24", x, () -> x.merge(2, 2), 0, 9);
        counts("merge of two kinds", x, () -> x.merge(2, 0), 0, 10);
        counts("rise that tells NONE", x, () -> x.rise(2), 0, 10);
        counts("compare of two kinds", x, () -> x.compare(2, 0), 0, 10);
        counts("mismatch of two kinds", x, () -> x.mismatch(2, 0), 0, 10);
        counts("hash of no plain row", x, () -> x.hash(2), 0, 10);
        counts("searchPart of no part", x, () -> x.searchPart(2, 1, 0, 0), 0, 10);
        counts("last that tells NONE", x, () -> x.last(2, 5), 0, 10);
        x.set(2, 0, -9);
        counts("at that tells -9", x, () -> x.at(2, 0), 0, 10);
        counts("set that tells -9", x, () -> x.set(2, 0, 0), 0, 10);
        counts("add that throws", x, () -> x.add(6, 0), 0, 10);
        counts("fill that throws", x, () -> x.fill(6, 1, 0, 0), 0, 10);
        counts("ramp that throws", x, () -> x.ramp(2, 0, 0, 0), 0, 10);
        counts("resize that throws", x, () -> x.resize(6, -1), 0, 10);
        counts("sortPart that throws", x, () -> x.sortPart(6, 1, 0), 0, 10);
        counts("copyPart that throws", x, () -> x.copyPart(2, 1, 0, 6), 0, 10);
        counts("merge that throws", x, () -> x.merge(2, 6), 0, 10);
        counts("digest", x, () -> x.digest(), 0, 10);
    }

    private void houseArgument() {
        promise(42);
        sentences("Throws `IllegalArgumentException` if what is not 0 to 5");
        for (int what : new int[] {LEAST, -1, 0, 5, 6, MOST}) {
            Risingbag x = six(4, 2, 1);
            if (what >= 0 && what <= 5) {
                c.same("house(" + what + ")", Check.thrownBy(() -> x.house(what)), "nothing");
            } else {
                c.argument(x, "house(" + what + ")", () -> x.house(what));
            }
        }
    }

    private void knock() {
        promise(43);
        sentences("Knocks.", "Returns how often one knocked, with this.");
        Risingbag x = six(4, 2, 1);
        String things = Check.things(x);
        c.same("nobody has", x.house(5), 0);
        for (int k = 1; k <= 300; k++) {
            c.same("knock()", x.knock(), k);
        }
        c.same("the house", list(Check.house(x)), "[12, 0, 6, 0, 0, 300]");
        c.same("the things", Check.things(x), things);
    }

    private void isSound() {
        promise(44);
        sentences(SOUND);
        int[][] rows = {
            {}, {5}, {5, 5}, {6, 5}, {5, 6, 5}, {1, 2, 3}, {3, 2, 1}, new int[24], steps(24, 50, -1), steps(24, 1, 1)};
        for (int[] values : rows) {
            for (int kind = 0; kind <= 4; kind++) {
                Risingbag x = six(kind, values);
                c.asked(x, "of " + list(values) + " of kind " + kind, true, () -> x.isSound());
            }
        }
        for (int kind = 0; kind <= 4; kind++) {
            int least = LEAST_OF[kind];
            int most = MOST_OF[kind];
            Risingbag x = six(kind, most, least, most, 1, least, most - 1, least + 1);
            c.asked(x, "of the least and the most", true, () -> x.isSound());
        }
        Risingbag none = new Risingbag();
        c.asked(none, "of a new object", true, () -> none.isSound());
        Risingbag tagged = six(4, 1, 1, 1, 0, 0);
        for (int way = 0; way <= 4; way++) {
            tagged.sortBy(way, way);
        }
        c.asked(tagged, "of pairs of like values", true, () -> tagged.isSound());
    }

    private void digest() {
        promise(45);
        sentences(CHECKSUM, "Returns d.");
        Risingbag x = put(put(new Risingbag(), 0, 0, MOST, LEAST, -9), 4, 4, 12, -2, 30, -2);
        c.asked(x, "of some", Checksum.of(x).longValue(), () -> x.digest());
        digestTells("a knock", y -> y.knock());
        digestTells("a refusal", y -> y.resize(2, -1));
        digestTells("a sorting", y -> y.sort(3));
        digestTells("a value", y -> y.set(2, 3, -3));
        digestTells("a tag", y -> y.tag(2, 3, 0));
        digestTells("a kind", y -> y.make(5, 1, 0));
        digestTells("how many things", y -> y.make(5, 0, 1));
    }

    private void digestTells(String what, Consumer<Risingbag> change) {
        Risingbag x = with(4, 12, -2, 30, -2);
        long before = x.digest();
        change.accept(x);
        c.same(what + " is told", x.digest() == before, false);
        c.same("then", x.digest(), Checksum.of(x).longValue());
    }

    private void digestWrapsAround() {
        promise(45);
        sentences(CHECKSUM, "Returns d.");
        Risingbag none = new Risingbag();
        c.same("it is too great for 64 bits", Checksum.of(none).bitLength() > 64, true);
        c.same("of a new object", none.digest(), Checksum.of(none).longValue());
        c.same("of a new object, written out", none.digest(), NEW_DIGEST);
        int[] falling = steps(24, MOST, -178956970);
        Risingbag full = six(1, falling);
        c.same("of six full rows", full.digest(), Checksum.of(full).longValue());
        Risingbag pairs = six(4, steps(24, 999, -80));
        c.same("of six full rows of pairs", pairs.digest(), Checksum.of(pairs).longValue());
    }

    // Reckoned from the document by another program, in another language.
    private static final long NEW_DIGEST = 5554196100048564765L;
}
