import java.util.Arrays;
import java.util.List;

/** The sentences of the document that hold for all promises: its description, and what 512 calls are. */
final class EdgesOfDescription extends Edges {
    private static final String FIRST = "If several exceptions apply, the one that is named first is thrown.";
    private static final String NOTHING = "-9 (REFUSED): a call that is let, but can not be done; nothing changes "
        + "then (exceptions go ahead of it).";

    private interface Call {
        Object on(Risingbag x);
    }

    EdgesOfDescription(Check c) {
        super(c);
    }

    void run() {
        promise(0);
        manyCalls();
        none();
        refusedChangesNothing();
        exceptionAheadOfRefusal();
        placesAndParts();
        thrownChangesNothing();
        firstExceptionOfRows();
        firstExceptionOfAsked();
        askedChangesNothing();
        rowsOfTheObject();
        mostThings();
        kindsOfValues();
        kindGoesWithTheRow();
        tagGoesWithItsThing();
        tagGoesWithItIntoOthers();
        bag();
        rising();
        inversions();
        smallerLikesGreater();
        order();
        likeOnesKeepTheirSequence();
        ways();
        knocking();
        wholeNumbersInSequence();
    }

    /** Things of every kind, a row without things and a full one; something was sorted, refused, knocked at. */
    private static Risingbag loaded() {
        Risingbag x = new Risingbag();
        Check.put(x, 0, 0, 7, -3, LEAST, 7, MOST);
        Check.put(x, 1, 1, 1, 2, 2, 4);
        Check.put(x, 2, 2, 127, -128, 0);
        x.make(3, 3, 0);
        Check.put(x, 4, 4, 12, -2, 30, -2, 999);
        Check.label(x, 4, 9, 8, 99, 0, 5);
        x.make(5, 4, 24);
        x.fill(5, 0, 12, 3);
        x.tag(5, 23, 42);
        x.sort(3);
        x.resize(0, -1);
        x.resize(0, -1);
        x.knock();
        return x;
    }

    private void manyCalls() {
        sentences("An object is used for at most 512 calls after it has been made; what later calls answer is free.");
        Risingbag knocked = new Risingbag();
        Risingbag refused = new Risingbag();
        Risingbag sorted = new Risingbag();
        refused.make(0, 0, 24);
        for (int k = 1; k <= 510; k++) {
            c.same("knock " + k, knocked.knock(), k);
            c.same("add " + k, refused.add(0, k), -9);
            c.same("sort " + k, sorted.sort(5), 0);
        }
        c.same("call 511", knocked.knock(), 511);
        c.same("call 512", knocked.house(5), 511);
        c.same("call 512 after 510 refusals", refused.house(4), 510);
        c.same("call 511 after 510 sortings", sorted.house(3), 510);
        Risingbag x = new Risingbag();
        x.make(0, 4, 24);
        x.fill(0, 0, 12, 999);
        for (int row = 1; row < 6; row++) {
            x.copy(0, row);
        }
        long due = x.digest();
        for (int k = 9; k <= 511; k++) {
            c.same("digest at call " + k, x.digest(), due);
        }
        c.same("text at call 512", x.text(5), "[" + "999, ".repeat(12) + "0, ".repeat(11) + "0]");
    }

    private void none() {
        sentences("NONE is -1.");
        Risingbag x = put(with(0, 1, 2), 3, 0, 1, 2);
        c.asked(x, "rise", -1, () -> x.rise(2));
        c.asked(x, "mismatch", -1, () -> x.mismatch(2, 3));
        c.asked(x, "last", -1, () -> x.last(2, 3));
        c.asked(x, "search ahead", -1, () -> x.search(2, 0));
        c.refused(x, "resize", () -> x.resize(2, -1));
        c.argument(x, "resize to NONE less one", () -> x.resize(2, -2));
    }

    private void refused(String what, Call call) {
        Risingbag x = loaded();
        c.refused(x, what, () -> call.on(x));
        c.refused(x, what + " again", () -> call.on(x));
    }

    private void refusedAsked(String what, int due, Call call) {
        Risingbag x = loaded();
        c.asked(x, what, due, () -> call.on(x));
    }

    private void refusedChangesNothing() {
        sentences(NOTHING);
        refused("add", x -> x.add(5, 1));
        refused("fill", x -> x.fill(0, 2, 1, 5));
        refused("fill beyond", x -> x.fill(0, 0, 6, 5));
        refused("ramp", x -> x.ramp(1, 1, 1, 5));
        refused("resize", x -> x.resize(4, -1));
        refused("sortPart", x -> x.sortPart(0, 2, 1));
        refused("sortPart beyond", x -> x.sortPart(0, 0, 6));
        refused("sortHalves", x -> x.sortHalves(0, 6));
        refused("sortHalves ahead", x -> x.sortHalves(0, -1));
        refused("copyPart", x -> x.copyPart(0, 2, 1, 4));
        refused("copyPart beyond", x -> x.copyPart(0, 6, 6, 4));
        refused("copyPart of too many", x -> x.copyPart(0, 0, 25, 4));
        refused("merge", x -> x.merge(4, 5));
        refused("merge of kinds", x -> x.merge(4, 0));
        refusedAsked("compare", -9, x -> x.compare(0, 1));
        refusedAsked("mismatch", -9, x -> x.mismatch(0, 1));
        refusedAsked("hash", -9, x -> x.hash(1));
        refusedAsked("searchPart", -9999, x -> x.searchPart(1, 2, 1, 2));
    }

    private void index(String what, Call call) {
        Risingbag x = loaded();
        c.index(x, what, () -> call.on(x));
    }

    private void argument(String what, Call call) {
        Risingbag x = loaded();
        c.argument(x, what, () -> call.on(x));
    }

    private void illegal(String what, Call call) {
        Risingbag x = loaded();
        c.illegalState(x, what, () -> call.on(x));
    }

    private void exceptionAheadOfRefusal() {
        sentences(NOTHING);
        argument("add of 1000 to 24 pairs", x -> x.add(5, 1000));
        argument("fill with 1000", x -> x.fill(5, 2, 1, 1000));
        argument("fill with 128 beyond", x -> x.fill(2, 0, 4, 128));
        index("fill of row 6", x -> x.fill(6, 2, 1, 5));
        argument("ramp of kind 1, first", x -> x.ramp(1, 10000, 1, 1));
        argument("ramp of kind 1, step", x -> x.ramp(1, 1, -10000, 1));
        argument("ramp of kind 1, bound", x -> x.ramp(1, 1, 1, 0));
        index("resize of row 6", x -> x.resize(6, -1));
        index("sortPart of row 6", x -> x.sortPart(6, 2, 1));
        index("sortHalves of row 6", x -> x.sortHalves(6, -1));
        index("copyPart of row 6", x -> x.copyPart(6, 2, 1, 0));
        index("copyPart into row 6", x -> x.copyPart(0, 2, 1, 6));
        index("copyPart of too many into row -1", x -> x.copyPart(0, 0, 25, -1));
        index("merge of a full row with row 6", x -> x.merge(5, 6));
        index("merge of row -1 with a full row", x -> x.merge(-1, 5));
        index("compare with row 6", x -> x.compare(1, 6));
        index("mismatch with row 6", x -> x.mismatch(1, 6));
        index("hash of row 6", x -> x.hash(6));
        index("searchPart of row 6", x -> x.searchPart(6, 2, 1, 0));
        argument("searchPart of no part", x -> x.searchPart(5, 2, 1, 1000));
        illegal("searchPart of no part of a falling row", x -> x.searchPart(4, 2, 1, 0));
    }

    private void placesAndParts() {
        sentences("Places start with 0; a PART is from a place on up to ahead of another one.");
        Risingbag x = with(0, 9, 8, 7, 6, 5);
        c.same("the first place", x.at(2, 0), 9);
        c.same("the last place", x.at(2, 4), 5);
        c.index(x, "behind it", () -> x.at(2, 5));
        c.same("sortPart(2, 1, 3)", x.sortPart(2, 1, 3), 9);
        c.same("just the places 1 and 2", x.text(2), "[9, 7, 8, 6, 5]");
        c.same("fill(2, 3, 5, 0)", x.fill(2, 3, 5, 0), 2);
        c.same("just the places 3 and 4", x.text(2), "[9, 7, 8, 0, 0]");
        c.same("copyPart(2, 1, 4, 3)", x.copyPart(2, 1, 4, 3), 3);
        c.same("just the places 1 to 3", x.text(3), "[7, 8, 0]");
    }

    private void thrownChangesNothing() {
        sentences("A method that throws an exception changes nothing.");
        index("make", x -> x.make(6, 0, 1));
        argument("make of a kind", x -> x.make(0, 5, 1));
        argument("make of a number", x -> x.make(0, 1, 25));
        index("set", x -> x.set(0, 5, 1));
        argument("set of a value", x -> x.set(2, 0, 128));
        index("tag", x -> x.tag(4, 5, 1));
        argument("tag of a tag", x -> x.tag(4, 0, 100));
        illegal("tag of a kind", x -> x.tag(0, 0, 1));
        index("swap", x -> x.swap(0, 5, 0));
        index("swap of the other", x -> x.swap(0, 0, 5));
        index("add", x -> x.add(6, 1));
        argument("add of a value", x -> x.add(3, 256));
        index("fill", x -> x.fill(6, 0, 0, 1));
        argument("fill with a value", x -> x.fill(2, 0, 3, -129));
        index("ramp", x -> x.ramp(6, 1, 1, 1));
        argument("ramp of a bound", x -> x.ramp(0, 1, 1, 0));
        index("resize", x -> x.resize(6, 1));
        argument("resize to a number", x -> x.resize(0, 25));
        index("sort", x -> x.sort(6));
        index("sortPart", x -> x.sortPart(6, 0, 0));
        index("sortHalves", x -> x.sortHalves(6, 0));
        index("sortBy", x -> x.sortBy(6, 0));
        argument("sortBy of a way", x -> x.sortBy(4, 5));
        illegal("sortBy of a kind", x -> x.sortBy(0, 0));
        index("rise", x -> x.rise(6));
        index("copy", x -> x.copy(6, 0));
        index("copy into", x -> x.copy(0, 6));
        index("copyPart", x -> x.copyPart(6, 0, 1, 0));
        index("copyPart into", x -> x.copyPart(0, 0, 1, 6));
        index("merge", x -> x.merge(6, 0));
        index("merge with", x -> x.merge(0, 6));
        thrownByAskedChangesNothing();
    }

    private void thrownByAskedChangesNothing() {
        index("compare", x -> x.compare(6, 0));
        index("mismatch", x -> x.mismatch(0, 6));
        index("areEqual", x -> x.areEqual(6, 0));
        index("areAlike", x -> x.areAlike(0, 6));
        index("kind", x -> x.kind(6));
        index("size", x -> x.size(6));
        index("at", x -> x.at(0, 5));
        index("tagAt", x -> x.tagAt(4, 5));
        illegal("tagAt of a kind", x -> x.tagAt(0, 0));
        index("text", x -> x.text(6));
        index("tags", x -> x.tags(6));
        index("isRising", x -> x.isRising(6));
        index("inversions", x -> x.inversions(6));
        index("inversionsAt", x -> x.inversionsAt(0, 5));
        index("smaller", x -> x.smaller(6, 0));
        argument("smaller than a value", x -> x.smaller(2, 128));
        index("likes", x -> x.likes(6, 0));
        argument("likes of a value", x -> x.likes(2, 128));
        index("greater", x -> x.greater(6, 0));
        argument("greater than a value", x -> x.greater(2, 128));
        index("search", x -> x.search(6, 0));
        argument("search for a value", x -> x.search(3, 256));
        illegal("search of a falling row", x -> x.search(0, 0));
        index("searchPart", x -> x.searchPart(6, 0, 0, 0));
        argument("searchPart for a value", x -> x.searchPart(3, 0, 0, 256));
        illegal("searchPart of a falling row", x -> x.searchPart(0, 0, 1, 0));
        index("last", x -> x.last(6, 0));
        argument("last of a value", x -> x.last(3, 256));
        illegal("last of a falling row", x -> x.last(0, 0));
        index("nth", x -> x.nth(0, 5));
        index("median", x -> x.median(6));
        illegal("median of none", x -> x.median(3));
        index("unlike", x -> x.unlike(6));
        index("mode", x -> x.mode(6));
        illegal("mode of none", x -> x.mode(3));
        index("hash", x -> x.hash(6));
        argument("house", x -> x.house(6));
    }

    private void firstExceptionOfRows() {
        sentences(FIRST);
        index("make", x -> x.make(6, 5, 25));
        index("make", x -> x.make(-1, -1, -1));
        index("set, row and value", x -> x.set(6, 0, MOST));
        index("set, place and value", x -> x.set(2, 3, 128));
        index("set, place and value", x -> x.set(2, -1, -129));
        index("set without things", x -> x.set(3, 0, 256));
        index("tag, row and tag", x -> x.tag(6, 0, 100));
        index("tag, place and tag", x -> x.tag(4, 5, 100));
        index("tag, place and kind", x -> x.tag(0, 5, 1));
        index("tag, place, tag and kind", x -> x.tag(0, -1, -1));
        index("tag without things", x -> x.tag(3, 0, 100));
        argument("tag, tag and kind", x -> x.tag(0, 0, 100));
        argument("tag, tag and kind", x -> x.tag(2, 2, -1));
        index("add", x -> x.add(6, MOST));
        index("fill", x -> x.fill(-1, 0, 0, MOST));
        index("ramp", x -> x.ramp(6, 10000, -10000, 0));
        index("resize", x -> x.resize(-1, 25));
        index("sortBy, row and way", x -> x.sortBy(6, 5));
        argument("sortBy, way and kind", x -> x.sortBy(0, 5));
        argument("sortBy, way and kind", x -> x.sortBy(3, -1));
    }

    private void firstExceptionOfAsked() {
        sentences(FIRST);
        index("tagAt, row", x -> x.tagAt(6, 0));
        index("tagAt, place and kind", x -> x.tagAt(0, 5));
        index("tagAt without things", x -> x.tagAt(3, 0));
        for (int row : new int[] {-1, 6}) {
            index("smaller", x -> x.smaller(row, MOST));
            index("likes", x -> x.likes(row, MOST));
            index("greater", x -> x.greater(row, MOST));
            index("search", x -> x.search(row, MOST));
            index("searchPart", x -> x.searchPart(row, 1, 0, MOST));
            index("last", x -> x.last(row, MOST));
            index("median", x -> x.median(row));
            index("mode", x -> x.mode(row));
        }
        for (int value : new int[] {-1000, 1000}) {
            argument("search of a falling row", x -> x.search(4, value));
            argument("searchPart of a falling row", x -> x.searchPart(4, 0, 5, value));
            argument("last of a falling row", x -> x.last(4, value));
        }
    }

    private void asked(String what, Object due, Call call) {
        Risingbag x = loaded();
        c.asked(x, what, due, () -> call.on(x));
        c.asked(x, what + " again", due, () -> call.on(x));
    }

    private void askedChangesNothing() {
        sentences("What one asks for changes nothing.");
        asked("compare", 1, x -> x.compare(4, 5));
        asked("mismatch", 0, x -> x.mismatch(4, 5));
        asked("areEqual", false, x -> x.areEqual(4, 5));
        asked("areAlike", false, x -> x.areAlike(4, 5));
        asked("kind", 4, x -> x.kind(4));
        asked("size", 5, x -> x.size(4));
        asked("at", 30, x -> x.at(4, 2));
        asked("tagAt", 99, x -> x.tagAt(4, 2));
        asked("text", "[12, -2, 30, -2, 999]", x -> x.text(4));
        asked("tags", "[9, 8, 99, 0, 5]", x -> x.tags(4));
        asked("isRising", false, x -> x.isRising(4));
        asked("inversions", 3, x -> x.inversions(4));
        asked("inversionsAt", 2, x -> x.inversionsAt(4, 3));
        asked("smaller", 2, x -> x.smaller(4, 12));
        asked("likes", 2, x -> x.likes(4, -2));
        asked("greater", 2, x -> x.greater(4, 12));
        asked("search", 1, x -> x.search(1, 2));
        asked("searchPart", 2, x -> x.searchPart(1, 2, 4, 2));
        asked("last", 2, x -> x.last(1, 2));
        asked("nth", -2, x -> x.nth(4, 1));
        asked("median", 12, x -> x.median(4));
        asked("unlike", 4, x -> x.unlike(4));
        asked("mode", -2, x -> x.mode(4));
        asked("hash", Arrays.hashCode(new int[] {7, -3, LEAST, 7, MOST}), x -> x.hash(0));
        asked("house", 41, x -> x.house(0));
        asked("isSound", true, x -> x.isSound());
        asked("digest", loaded().digest(), x -> x.digest());
    }

    private void rowsOfTheObject() {
        sentences("ROWS 0 to 5, each of a KIND (0 at first) with at most 24 THINGS (none at first).");
        Risingbag x = new Risingbag();
        for (int row : new int[] {0, 1, 2, 3, 4, 5}) {
            c.same("kind at first", x.kind(row), 0);
            c.same("things at first", x.size(row), 0);
        }
        for (int row : new int[] {LEAST, -1, 6, MOST}) {
            c.index(x, "row " + row, () -> x.kind(row));
        }
        for (int row : new int[] {0, 1, 2, 3, 4, 5}) {
            x.make(row, row % 5, row);
        }
        c.same("each is of its own", Check.things(x),
            "0[]- 1[0]- 2[0, 0]- 3[0, 0, 0]- 4[0, 0, 0, 0][0, 0, 0, 0] 0[0, 0, 0, 0, 0]- ");
    }

    private void mostThings() {
        sentences("ROWS 0 to 5, each of a KIND (0 at first) with at most 24 THINGS (none at first).");
        Risingbag x = new Risingbag();
        c.same("make of 24", x.make(0, 0, 24), 0);
        c.argument(x, "make of 25", () -> x.make(0, 0, 25));
        c.same("resize to 24", x.resize(1, 24), 0);
        c.argument(x, "resize to 25", () -> x.resize(1, 25));
        c.refused(x, "add to 24", () -> x.add(1, 0));
        c.same("copyPart of 24", x.copyPart(2, 0, 24, 3), 24);
        c.refused(x, "copyPart of 25", () -> x.copyPart(2, 0, 25, 3));
        x.make(4, 0, 1);
        c.refused(x, "merge to 25", () -> x.merge(4, 3));
        x.resize(3, 23);
        c.same("merge to 24", x.merge(4, 3), 24);
    }

    private void kindsOfValues() {
        sentences("KINDS, and what a VALUE of them can be: 0 PLAIN and 1 WIDE: any int; 2 SMALL: -128 to 127; "
            + "3 SIGNS: 0 to 255; 4 PAIRS: -999 to 999.");
        int[][] inside = {{LEAST, MOST}, {LEAST, MOST}, {-128, 127}, {0, 255}, {-999, 999}};
        int[][] outside = {{}, {}, {-129, 128, LEAST, MOST}, {-1, 256, LEAST, MOST}, {-1000, 1000, LEAST, MOST}};
        for (int kind = 0; kind <= 4; kind++) {
            for (int value : inside[kind]) {
                Risingbag x = zeros(kind, 3);
                c.same("set " + value, x.set(2, 0, value), 0);
                c.same("fill with " + value, x.fill(2, 1, 3, value), 2);
                c.same("add " + value, x.add(2, value), 4);
                c.same("text", x.text(2), same(4, value));
                c.same("likes " + value, x.likes(2, value), 4);
                c.same("smaller " + value, x.smaller(2, value), 0);
                c.same("greater " + value, x.greater(2, value), 0);
                c.same("search " + value, x.search(2, value), 0);
                c.same("searchPart " + value, x.searchPart(2, 1, 3, value), 1);
                c.same("last " + value, x.last(2, value), 3);
            }
            for (int value : outside[kind]) {
                List<Call> calls = List.of(
                    x -> x.set(2, 0, value), x -> x.fill(2, 1, 3, value), x -> x.add(2, value),
                    x -> x.likes(2, value), x -> x.smaller(2, value), x -> x.greater(2, value),
                    x -> x.search(2, value), x -> x.searchPart(2, 1, 3, value), x -> x.last(2, value));
                for (Call call : calls) {
                    Risingbag x = zeros(kind, 3);
                    c.argument(x, value + " for kind " + kind, () -> call.on(x));
                }
            }
        }
    }

    private void kindGoesWithTheRow() {
        sentences("KINDS, and what a VALUE of them can be: 0 PLAIN and 1 WIDE: any int; 2 SMALL: -128 to 127; "
            + "3 SIGNS: 0 to 255; 4 PAIRS: -999 to 999.");
        Risingbag copied = put(with(2, 1), 3, 4, 5, 6);
        copied.copy(2, 3);
        c.argument(copied, "128 in a copy of SMALL", () -> copied.set(3, 0, 128));
        c.illegalState(copied, "a tag in a copy of SMALL", () -> copied.tag(3, 0, 1));
        Risingbag part = put(with(3, 1), 3, 4, 5, 6);
        part.copyPart(2, 1, 3, 3);
        c.argument(part, "256 in a part of SIGNS", () -> part.set(3, 1, 256));
        c.same("255 in a part of SIGNS", part.set(3, 1, 255), 0);
        Risingbag made = with(2, 1);
        made.make(2, 4, 1);
        c.same("999 where SMALL was made PAIRS", made.set(2, 0, 999), 0);
        c.same("a tag there", made.tag(2, 0, 99), 0);
        made.resize(2, 0);
        made.resize(2, 2);
        c.argument(made, "1000 after resize", () -> made.set(2, 1, 1000));
        c.same("kind after resize", made.kind(2), 4);
    }

    private void tagGoesWithItsThing() {
        sentences("A THING of PAIRS has, beside its VALUE, a TAG (0 to 99); it goes with it wherever that goes.");
        Risingbag x = with(4, 5, 4, 3);
        c.same("the least", x.tag(2, 0, 0), 10);
        c.same("the most", x.tag(2, 1, 99), 11);
        c.argument(x, "below", () -> x.tag(2, 0, -1));
        c.argument(x, "above", () -> x.tag(2, 0, 100));
        x.swap(2, 0, 1);
        c.same("swap", Check.row(x, 2), "4[4, 5, 3][99, 0, 12]");
        x.rise(2);
        c.same("rise", Check.row(x, 2), "4[4, 3, 5][99, 12, 0]");
        x.sortPart(2, 0, 2);
        c.same("sortPart", Check.row(x, 2), "4[3, 4, 5][12, 99, 0]");
        x.sortBy(2, 1);
        c.same("sortBy", Check.row(x, 2), "4[5, 4, 3][0, 99, 12]");
        x.sortHalves(2, 1);
        c.same("sortHalves", Check.row(x, 2), "4[5, 3, 4][0, 12, 99]");
        x.sort(2);
        c.same("sort", Check.row(x, 2), "4[3, 4, 5][12, 99, 0]");
        x.set(2, 1, -4);
        c.same("set", Check.row(x, 2), "4[3, -4, 5][12, 99, 0]");
        x.fill(2, 0, 3, 7);
        c.same("fill", Check.row(x, 2), "4[7, 7, 7][12, 99, 0]");
    }

    private void tagGoesWithItIntoOthers() {
        sentences("A THING of PAIRS has, beside its VALUE, a TAG (0 to 99); it goes with it wherever that goes.");
        Risingbag x = put(with(4, 5, 4, 3), 3, 4, 8);
        x.copy(2, 0);
        c.same("copy", Check.row(x, 0), "4[5, 4, 3][10, 11, 12]");
        x.copyPart(2, 1, 4, 1);
        c.same("copyPart", Check.row(x, 1), "4[4, 3, 0][11, 12, 0]");
        x.merge(3, 2);
        c.same("merge", Check.row(x, 3), "4[3, 4, 5, 8][12, 11, 10, 10]");
        x.resize(3, 2);
        c.same("resize", Check.row(x, 3), "4[3, 4][12, 11]");
        x.resize(3, 3);
        c.same("one that has gone does not come back", Check.row(x, 3), "4[3, 4, 0][12, 11, 0]");
        x.add(3, 9);
        c.same("add", Check.row(x, 3), "4[3, 4, 0, 9][12, 11, 0, 0]");
        x.make(3, 0, 2);
        x.make(3, 4, 2);
        c.same("make", Check.row(x, 3), "4[0, 0][0, 0]");
    }

    private void bag() {
        sentences("BAG of a ROW: its VALUES with how often each stands in it (of PAIRS with their TAGS).");
        for (int way = 0; way <= 4; way++) {
            Risingbag x = with(4, 3, 1, 3, 1, 3);
            x.tag(2, 4, 10);
            x.sortBy(2, way);
            x.sortBy(2, 2);
            x.sortBy(2, 0);
            c.same("the bag stays", Check.row(x, 2), "4[1, 1, 3, 3, 3][11, 13, 10, 10, 12]");
            c.same("it is sound", x.isSound(), true);
        }
    }

    private void rising() {
        sentences("A ROW is RISING, if no VALUE is followed by a smaller one.",
            "Two neighbours FALL, if the first one is greater.");
        int[][] neighbours = {{LEAST, LEAST}, {LEAST, MOST}, {-1, 0}, {MOST, MOST}, {3, 4}};
        for (int[] two : neighbours) {
            Risingbag x = with(1, two);
            c.asked(x, list(two) + " rises", true, () -> x.isRising(2));
            c.asked(x, list(two) + " does not fall", -1, () -> x.rise(2));
        }
        int[][] falling = {{MOST, LEAST}, {0, -1}, {MOST, MOST - 1}, {LEAST + 1, LEAST}};
        for (int[] two : falling) {
            Risingbag x = with(1, two);
            c.asked(x, list(two) + " does not rise", false, () -> x.isRising(2));
            c.same(list(two) + " falls", x.rise(2), 0);
        }
        Risingbag apart = with(0, 1, 5, 3, 4, 2);
        c.asked(apart, "not just the first one", false, () -> apart.isRising(2));
    }

    private void inversions() {
        sentences("INVERSIONS: how many pairs of places there are, with the greater VALUE at the earlier one.");
        int[][] rows = {{}, {1}, {1, 1}, {1, 2}, {2, 1}, {2, 2, 1, 1}, {MOST, 0, LEAST}, new int[24], steps(24, 50, -1)};
        int[] due = {0, 0, 0, 0, 1, 4, 3, 0, 276};
        for (int k = 0; k < rows.length; k++) {
            Risingbag x = with(0, rows[k]);
            c.asked(x, "inversions of " + list(rows[k]), due[k], () -> x.inversions(2));
            c.asked(x, "of all rows", due[k], () -> x.house(2));
            c.same("sort of " + list(rows[k]), x.sort(2), due[k]);
        }
    }

    private void smallerLikesGreater() {
        sentences("SMALLER, LIKES, GREATER of a number: how many VALUES are below it, are it, are above it.");
        Risingbag x = with(0, 5, MOST, LEAST, 5, 4, 6);
        c.same("of 5", list(x.smaller(2, 5), x.likes(2, 5), x.greater(2, 5)), "[2, 2, 2]");
        c.same("of the least", list(x.smaller(2, LEAST), x.likes(2, LEAST), x.greater(2, LEAST)), "[0, 1, 5]");
        c.same("of the most", list(x.smaller(2, MOST), x.likes(2, MOST), x.greater(2, MOST)), "[5, 1, 0]");
        c.same("of none", list(x.smaller(3, 5), x.likes(3, 5), x.greater(3, 5)), "[0, 0, 0]");
        Risingbag full = zeros(3, 24);
        c.same("of 24 like ones", list(full.smaller(2, 0), full.likes(2, 0), full.greater(2, 0)), "[0, 24, 0]");
        c.same("of another one", list(full.smaller(2, 1), full.likes(2, 1), full.greater(2, 1)), "[24, 0, 0]");
    }

    private void order() {
        sentences("ORDER of two ROWS of a KIND: if they differ at some place that both have, the one with the smaller "
            + "VALUE at the first such place is LESS; otherwise the one with fewer THINGS (TAGS are not looked at).");
        Risingbag x = put(with(4, 1, 2, 3), 3, 4, 1, 2);
        c.same("fewer things", list(x.compare(3, 2), x.compare(2, 3)), "[-1, 1]");
        x.set(3, 1, 3);
        c.same("the greater value goes ahead of that", list(x.compare(3, 2), x.compare(2, 3)), "[1, -1]");
        x.set(3, 0, -1);
        c.same("the first place goes ahead", list(x.compare(3, 2), x.compare(2, 3)), "[-1, 1]");
        x.copy(2, 3);
        x.tag(3, 0, 99);
        c.same("tags are not looked at", list(x.compare(3, 2), x.compare(2, 3)), "[0, 0]");
        Risingbag wide = put(with(1, LEAST), 3, 1, MOST);
        c.same("the least and the most", list(wide.compare(2, 3), wide.compare(3, 2)), "[-1, 1]");
    }

    private void likeOnesKeepTheirSequence() {
        sentences("To sort a PART: its THINGS are put in RISING sequence of their VALUES; of PAIRS those with like "
            + "VALUES keep their sequence.");
        int[] values = new int[24];
        int[] tags = new int[24];
        for (int k = 0; k < 24; k++) {
            values[k] = 2 - k % 3;
            tags[k] = 10 + (2 - k / 8) + k % 8 * 3;
        }
        Risingbag x = with(4, values);
        x.sort(2);
        c.same("sort", x.tags(2), list(tags));
        Risingbag part = with(4, 9, 1, 0, 1, 0, 9);
        part.sortPart(2, 1, 5);
        c.same("sortPart", Check.row(part, 2), "4[9, 0, 0, 1, 1, 9][10, 12, 14, 11, 13, 15]");
        Risingbag halves = with(4, 1, 0, 1, 1, 0, 1);
        halves.sortHalves(2, 3);
        c.same("sortHalves", Check.row(halves, 2), "4[0, 1, 1, 0, 1, 1][11, 10, 12, 14, 13, 15]");
        Risingbag merged = put(with(4, 1, 0, 1), 3, 4, 0, 1, 0);
        merged.merge(3, 2);
        c.same("merge", Check.row(merged, 3), "4[0, 0, 0, 1, 1, 1][10, 12, 11, 11, 10, 12]");
    }

    private void ways() {
        sentences("WAYS to sort PAIRS: 0 by VALUES rising, 1 by VALUES falling, 2 by TAGS rising, 3 by TAGS falling, "
            + "4 by the last digit of the VALUE without its sign, rising; those that are alike so keep their "
            + "sequence.");
        String[] due = {
            "4[-999, -999, -10, 0, 9, 999][0, 99, 50, 99, 0, 50]",
            "4[999, 9, 0, -10, -999, -999][50, 0, 99, 50, 0, 99]",
            "4[9, -999, 999, -10, 0, -999][0, 0, 50, 50, 99, 99]",
            "4[0, -999, 999, -10, 9, -999][99, 99, 50, 50, 0, 0]",
            "4[0, -10, 9, 999, -999, -999][99, 50, 0, 50, 0, 99]"};
        for (int way = 0; way <= 4; way++) {
            Risingbag x = with(4, 9, 999, -999, 0, -10, -999);
            int[] tags = {0, 50, 0, 99, 50, 99};
            for (int k = 0; k < tags.length; k++) {
                x.tag(2, k, tags[k]);
            }
            x.sortBy(2, way);
            c.same("way " + way, Check.row(x, 2), due[way]);
            Risingbag like = new Risingbag();
            like.make(2, 4, 24);
            like.set(2, 0, 0);
            c.same("of like ones", like.sortBy(2, way), 0);
        }
        for (int way = 0; way <= 4; way++) {
            Risingbag x = with(4, 10, -20, 30, -40);
            x.fill(2, 0, 4, way % 2 == 0 ? 10 : -10);
            x.sortBy(2, way);
            String rising = "[10, 11, 12, 13]";
            c.same("alike by the way " + way, x.tags(2), way == 3 ? "[13, 12, 11, 10]" : rising);
        }
    }

    private void knocking() {
        sentences("At the counter somebody asks for a thing that is greater than itself: who knocks is counted.");
        Risingbag x = loaded();
        String things = Check.things(x);
        c.same("knock", x.knock(), 2);
        c.same("knock", x.knock(), 3);
        c.same("house", x.house(5), 3);
        c.same("nothing else", Check.things(x) + x.house(3) + x.house(4), things + "12");
    }

    private void wholeNumbersInSequence() {
        sentences("Whole numbers.", "X by X is by rising numbers.");
        Risingbag x = with(0, 2, 1);
        c.same("a median is one of the values", x.median(2), 1);
        c.same("so is that below 0", with(0, -1, -2).median(2), -2);
        Risingbag first = put(new Risingbag(), 0, 1, 1);
        Risingbag last = put(new Risingbag(), 5, 1, 1);
        c.same("row by row", first.digest() == last.digest(), false);
        long d = 0;
        for (int n = 0; n < 3; n++) {
            d = d * 31 + with(0, 9, 8, 7).nth(2, n);
        }
        c.same("place by place", d, (7L * 31 + 8) * 31 + 9);
    }
}
