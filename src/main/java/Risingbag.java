/** Six rows of numbers of five kinds; the promises are told by number in the document. */
public final class Risingbag {
    private static final int ROWS = 6;
    private static final int PLACES = 24;
    private static final int NONE = -1;
    private static final int REFUSED = -9;
    private static final int NO_PART = -9999;

    private static final int PLAIN = 0;
    private static final int SMALL = 2;
    private static final int SIGNS = 3;
    private static final int PAIRS = 4;

    private static final int BY_VALUES = 0;
    private static final int BY_VALUES_FALLING = 1;
    private static final int BY_TAGS = 2;
    private static final int BY_TAGS_FALLING = 3;
    private static final int BY_LAST_DIGIT = 4;

    private static final int FARTHEST = 9999;
    private static final int GREATEST_TAG = 99;

    private final Row[] rows = new Row[ROWS];
    // These are made once and used again by every call, so that no call makes rows of its own.
    private final Row sorted = new Row();
    private final Row trial = new Row();
    private final StringBuilder signs = new StringBuilder();
    private int sortings;
    private int refusals;
    private int knocks;

    public Risingbag() {
        for (int k = 0; k < ROWS; k++) {
            rows[k] = new Row();
        }
    }

    // ---- rows

    public int make(int row, int kind, int many) throws IndexOutOfBoundsException, IllegalArgumentException {
        Row r = rowOf(row);
        if (kind < PLAIN || kind > PAIRS) {
            throw new IllegalArgumentException("there is no such kind");
        }
        if (many < 0 || many > PLACES) {
            throw new IllegalArgumentException("a row has 0 to 24 things");
        }
        int had = r.many;
        r.kind = kind;
        r.many = 0;
        r.lengthen(many);
        return had;
    }

    public int set(int row, int place, int value) throws IndexOutOfBoundsException, IllegalArgumentException {
        Row r = rowOf(row);
        checkPlace(r, place);
        checkValue(r, value);
        int before = r.valueOf(place);
        r.put(place, value, r.tagOf(place));
        return before;
    }

    public int tag(int row, int place, int tag)
            throws IndexOutOfBoundsException, IllegalArgumentException, IllegalStateException {
        Row r = rowOf(row);
        checkPlace(r, place);
        if (tag < 0 || tag > GREATEST_TAG) {
            throw new IllegalArgumentException("a tag is 0 to 99");
        }
        checkPairs(r);
        int before = r.tagOf(place);
        r.put(place, r.valueOf(place), tag);
        return before;
    }

    public int swap(int row, int place, int other) throws IndexOutOfBoundsException {
        Row r = rowOf(row);
        checkPlace(r, place);
        checkPlace(r, other);
        r.exchange(place, other);
        return r.countInversions();
    }

    public int add(int row, int value) throws IndexOutOfBoundsException, IllegalArgumentException {
        Row r = rowOf(row);
        checkValue(r, value);
        if (r.many >= PLACES) {
            return refuse();
        }
        r.append(value, 0);
        return r.many;
    }

    public int fill(int row, int from, int to, int value) throws IndexOutOfBoundsException, IllegalArgumentException {
        Row r = rowOf(row);
        checkValue(r, value);
        if (!r.hasPart(from, to)) {
            return refuse();
        }
        for (int k = from; k < to; k++) {
            r.put(k, value, r.tagOf(k));
        }
        return to - from;
    }

    public int ramp(int row, int first, int step, int bound)
            throws IndexOutOfBoundsException, IllegalArgumentException {
        Row r = rowOf(row);
        if (first < -FARTHEST || first > FARTHEST || step < -FARTHEST || step > FARTHEST) {
            throw new IllegalArgumentException("first and step are -9999 to 9999");
        }
        if (bound < 1 || bound > FARTHEST) {
            throw new IllegalArgumentException("bound is 1 to 9999");
        }
        if (r.kind != PLAIN) {
            return refuse();
        }
        for (int k = 0; k < r.many; k++) {
            r.put(k, (first + step * k) % bound, 0);
        }
        return r.many;
    }

    public int resize(int row, int many) throws IndexOutOfBoundsException, IllegalArgumentException {
        Row r = rowOf(row);
        if (many < NONE || many > PLACES) {
            throw new IllegalArgumentException("a row has 0 to 24 things");
        }
        if (many == NONE) {
            return refuse();
        }
        int had = r.many;
        if (many < had) {
            r.many = many;
        } else {
            r.lengthen(many);
        }
        return had;
    }

    // ---- sorting

    public int sort(int row) throws IndexOutOfBoundsException {
        Row r = rowOf(row);
        int had = r.countInversions();
        r.arrange(0, r.many, BY_VALUES);
        sortings++;
        return had;
    }

    public int sortPart(int row, int from, int to) throws IndexOutOfBoundsException {
        Row r = rowOf(row);
        if (!r.hasPart(from, to)) {
            return refuse();
        }
        r.arrange(from, to, BY_VALUES);
        sortings++;
        return r.countInversions();
    }

    public int sortHalves(int row, int at) throws IndexOutOfBoundsException {
        Row r = rowOf(row);
        if (at < 0 || at > r.many) {
            return refuse();
        }
        r.arrange(0, at, BY_VALUES);
        r.arrange(at, r.many, BY_VALUES);
        sortings++;
        return r.countInversions();
    }

    public int sortBy(int row, int way)
            throws IndexOutOfBoundsException, IllegalArgumentException, IllegalStateException {
        Row r = rowOf(row);
        if (way < BY_VALUES || way > BY_LAST_DIGIT) {
            throw new IllegalArgumentException("there is no such way");
        }
        checkPairs(r);
        r.arrange(0, r.many, way);
        sortings++;
        return r.countInversions();
    }

    public int rise(int row) throws IndexOutOfBoundsException {
        Row r = rowOf(row);
        int place = r.firstFall();
        if (place != NONE) {
            r.exchange(place, place + 1);
        }
        return place;
    }

    // ---- several rows

    public int copy(int row, int into) throws IndexOutOfBoundsException {
        Row r = rowOf(row);
        Row target = rowOf(into);
        target.become(r, 0, r.many);
        return target.many;
    }

    public int copyPart(int row, int from, int to, int into) throws IndexOutOfBoundsException {
        Row r = rowOf(row);
        Row target = rowOf(into);
        if (from > to || from < 0 || from > r.many || to - from > PLACES) {
            return refuse();
        }
        target.become(r, from, to);
        return target.many;
    }

    public int merge(int row, int other) throws IndexOutOfBoundsException {
        Row r = rowOf(row);
        Row second = rowOf(other);
        if (r.kind != second.kind || r.many + second.many > PLACES) {
            return refuse();
        }
        // Both may be the same row, which grows while it is read.
        int more = second.many;
        for (int k = 0; k < more; k++) {
            r.append(second.valueOf(k), second.tagOf(k));
        }
        r.arrange(0, r.many, BY_VALUES);
        sortings++;
        return r.many;
    }

    public int compare(int row, int other) throws IndexOutOfBoundsException {
        return comparison(rowOf(row), rowOf(other));
    }

    public int mismatch(int row, int other) throws IndexOutOfBoundsException {
        return placeOfMismatch(rowOf(row), rowOf(other));
    }

    public boolean areEqual(int row, int other) throws IndexOutOfBoundsException {
        Row r = rowOf(row);
        Row second = rowOf(other);
        return r.kind == second.kind && r.firstDifference(second) == NONE;
    }

    public boolean areAlike(int row, int other) throws IndexOutOfBoundsException {
        Row r = rowOf(row);
        Row second = rowOf(other);
        return r.kind == second.kind && r.hasValuesOf(second);
    }

    // ---- what is asked of a row

    public int kind(int row) throws IndexOutOfBoundsException {
        return rowOf(row).kind;
    }

    public int size(int row) throws IndexOutOfBoundsException {
        return rowOf(row).many;
    }

    public int at(int row, int place) throws IndexOutOfBoundsException {
        Row r = rowOf(row);
        checkPlace(r, place);
        return r.valueOf(place);
    }

    public int tagAt(int row, int place) throws IndexOutOfBoundsException, IllegalStateException {
        Row r = rowOf(row);
        checkPlace(r, place);
        checkPairs(r);
        return r.tagOf(place);
    }

    public String text(int row) throws IndexOutOfBoundsException {
        writeValues(rowOf(row));
        return signs.toString();
    }

    public String tags(int row) throws IndexOutOfBoundsException {
        writeTags(rowOf(row));
        return signs.toString();
    }

    public boolean isRising(int row) throws IndexOutOfBoundsException {
        return rowOf(row).rises();
    }

    public int inversions(int row) throws IndexOutOfBoundsException {
        return rowOf(row).countInversions();
    }

    public int inversionsAt(int row, int place) throws IndexOutOfBoundsException {
        Row r = rowOf(row);
        checkPlace(r, place);
        return r.countGreaterAhead(place);
    }

    public int smaller(int row, int value) throws IndexOutOfBoundsException, IllegalArgumentException {
        Row r = rowOf(row);
        checkValue(r, value);
        return r.countSmaller(value);
    }

    public int likes(int row, int value) throws IndexOutOfBoundsException, IllegalArgumentException {
        Row r = rowOf(row);
        checkValue(r, value);
        return r.countLikes(value);
    }

    public int greater(int row, int value) throws IndexOutOfBoundsException, IllegalArgumentException {
        Row r = rowOf(row);
        checkValue(r, value);
        return r.countGreater(value);
    }

    public int search(int row, int value)
            throws IndexOutOfBoundsException, IllegalArgumentException, IllegalStateException {
        Row r = rowOf(row);
        checkValue(r, value);
        checkRising(r);
        return r.find(0, r.many, value);
    }

    public int searchPart(int row, int from, int to, int value)
            throws IndexOutOfBoundsException, IllegalArgumentException, IllegalStateException {
        Row r = rowOf(row);
        checkValue(r, value);
        checkRising(r);
        return r.hasPart(from, to) ? r.find(from, to, value) : NO_PART;
    }

    public int last(int row, int value)
            throws IndexOutOfBoundsException, IllegalArgumentException, IllegalStateException {
        Row r = rowOf(row);
        checkValue(r, value);
        checkRising(r);
        return r.findLast(value);
    }

    public int nth(int row, int n) throws IndexOutOfBoundsException {
        Row r = rowOf(row);
        checkPlace(r, n);
        sortCopyOf(r);
        return sorted.valueOf(n);
    }

    public int median(int row) throws IndexOutOfBoundsException, IllegalStateException {
        Row r = rowOf(row);
        checkThings(r);
        sortCopyOf(r);
        return sorted.valueOf((r.many - 1) / 2);
    }

    public int unlike(int row) throws IndexOutOfBoundsException {
        sortCopyOf(rowOf(row));
        return sorted.countRuns();
    }

    public int mode(int row) throws IndexOutOfBoundsException, IllegalStateException {
        Row r = rowOf(row);
        checkThings(r);
        sortCopyOf(r);
        return sorted.firstOfMostLikes();
    }

    public int hash(int row) throws IndexOutOfBoundsException {
        Row r = rowOf(row);
        if (r.kind != PLAIN) {
            return REFUSED;
        }
        int number = 1;
        for (int k = 0; k < r.many; k++) {
            number = number * 31 + r.valueOf(k);
        }
        return number;
    }

    // ---- the whole

    public int house(int what) throws IllegalArgumentException {
        if (what < 0 || what > 5) {
            throw new IllegalArgumentException("what is 0 to 5");
        }
        return countOf(what);
    }

    public int knock() {
        knocks++;
        return knocks;
    }

    public boolean isSound() {
        for (int k = 0; k < ROWS; k++) {
            if (!isSoundRow(rows[k])) {
                return false;
            }
        }
        return true;
    }

    public long digest() {
        long d = 7806;
        for (int what = 0; what <= 5; what++) {
            d = d * 31 + countOf(what);
        }
        for (int k = 0; k < ROWS; k++) {
            d = digestRow(d, rows[k]);
        }
        return d * 31 + (isSound() ? 1 : 0);
    }

    // ---- what the methods above share

    private Row rowOf(int row) {
        if (row < 0 || row >= ROWS) {
            throw new IndexOutOfBoundsException("there is no such row");
        }
        return rows[row];
    }

    private static void checkPlace(Row r, int place) {
        if (place < 0 || place >= r.many) {
            throw new IndexOutOfBoundsException("there is no such place in the row");
        }
    }

    private static void checkValue(Row r, int value) {
        if (!canHave(r.kind, value)) {
            throw new IllegalArgumentException("the kind can not have that value");
        }
    }

    private static void checkPairs(Row r) {
        if (r.kind != PAIRS) {
            throw new IllegalStateException("the kind is not that of pairs");
        }
    }

    private static void checkRising(Row r) {
        if (!r.rises()) {
            throw new IllegalStateException("the row is not rising");
        }
    }

    private static void checkThings(Row r) {
        if (r.many == 0) {
            throw new IllegalStateException("the row has no things");
        }
    }

    private static boolean canHave(int kind, int value) {
        switch (kind) {
            case SMALL:
                return value >= -128 && value <= 127;
            case SIGNS:
                return value >= 0 && value <= 255;
            case PAIRS:
                return value >= -999 && value <= 999;
            default:
                return true;
        }
    }

    private int refuse() {
        refusals++;
        return REFUSED;
    }

    private static int comparison(Row r, Row other) {
        return r.kind == other.kind ? r.orderTo(other) : REFUSED;
    }

    private static int placeOfMismatch(Row r, Row other) {
        return r.kind == other.kind ? r.firstDifference(other) : REFUSED;
    }

    private void sortCopyOf(Row r) {
        sorted.become(r, 0, r.many);
        sorted.arrange(0, sorted.many, BY_VALUES);
    }

    private void writeValues(Row r) {
        signs.setLength(0);
        signs.append('[');
        for (int k = 0; k < r.many; k++) {
            if (k > 0) {
                signs.append(", ");
            }
            signs.append(r.valueOf(k));
        }
        signs.append(']');
    }

    private void writeTags(Row r) {
        signs.setLength(0);
        if (r.kind != PAIRS) {
            signs.append('-');
            return;
        }
        signs.append('[');
        for (int k = 0; k < r.many; k++) {
            if (k > 0) {
                signs.append(", ");
            }
            signs.append(r.tagOf(k));
        }
        signs.append(']');
    }

    private int countOf(int what) {
        switch (what) {
            case 0:
                return countThings();
            case 1:
                return countRisingRows();
            case 2:
                return countAllInversions();
            case 3:
                return sortings;
            case 4:
                return refusals;
            default:
                return knocks;
        }
    }

    private int countThings() {
        int count = 0;
        for (int k = 0; k < ROWS; k++) {
            count += rows[k].many;
        }
        return count;
    }

    private int countRisingRows() {
        int count = 0;
        for (int k = 0; k < ROWS; k++) {
            if (rows[k].rises()) {
                count++;
            }
        }
        return count;
    }

    private int countAllInversions() {
        int count = 0;
        for (int k = 0; k < ROWS; k++) {
            count += rows[k].countInversions();
        }
        return count;
    }

    private boolean isSoundRow(Row r) {
        sortCopyOf(r);
        return sorted.rises()
            && sorted.hasBagOf(r)
            && isSameWithHalvesSortedAhead(r)
            && isSameSortedOnceMore()
            && isOrderedUpTo(r)
            && doCountsAgree(r)
            && doInversionsAgree(r);
    }

    private boolean isSameWithHalvesSortedAhead(Row r) {
        int half = r.many / 2;
        trial.become(r, 0, r.many);
        trial.arrange(0, half, BY_VALUES);
        trial.arrange(half, trial.many, BY_VALUES);
        trial.arrange(0, trial.many, BY_VALUES);
        return trial.isSameAs(sorted);
    }

    private boolean isSameSortedOnceMore() {
        trial.become(sorted, 0, sorted.many);
        trial.arrange(0, trial.many, BY_VALUES);
        return trial.isSameAs(sorted);
    }

    private boolean isOrderedUpTo(Row r) {
        int order = sorted.orderTo(r);
        return r.rises() ? order == 0 : order <= 0;
    }

    private boolean doCountsAgree(Row r) {
        for (int k = 0; k < r.many; k++) {
            int value = r.valueOf(k);
            int below = r.countSmaller(value);
            if (below + r.countLikes(value) + r.countGreater(value) != r.many) {
                return false;
            }
            if (sorted.find(0, sorted.many, value) != below) {
                return false;
            }
        }
        return true;
    }

    private static boolean doInversionsAgree(Row r) {
        int count = 0;
        for (int k = 0; k < r.many; k++) {
            count += r.countGreaterAhead(k);
        }
        return count == r.countInversions();
    }

    private long digestRow(long before, Row r) {
        long d = before * 31 + r.kind;
        d = d * 31 + r.many;
        writeValues(r);
        d = digestSigns(d);
        writeTags(r);
        d = digestSigns(d);
        d = d * 31 + (r.rises() ? 1 : 0);
        d = d * 31 + r.countInversions();
        sortCopyOf(r);
        d = d * 31 + sorted.countRuns();
        for (int k = 0; k < sorted.many; k++) {
            d = d * 31 + sorted.valueOf(k);
        }
        for (int k = 0; k < ROWS; k++) {
            d = d * 31 + comparison(r, rows[k]);
            d = d * 31 + placeOfMismatch(r, rows[k]);
        }
        return d;
    }

    private long digestSigns(long before) {
        long d = before;
        for (int k = 0; k < signs.length(); k++) {
            d = d * 31 + signs.charAt(k);
        }
        return d;
    }

    /** One row: its kind and its things; a kind without tags keeps 0 as the tag of each. */
    private static final class Row {
        int kind;
        int many;
        private final int[] values = new int[PLACES];
        private final int[] labels = new int[PLACES];

        int valueOf(int place) {
            return place >= 0 && place < PLACES ? values[place] : 0;
        }

        int tagOf(int place) {
            return place >= 0 && place < PLACES ? labels[place] : 0;
        }

        void put(int place, int value, int label) {
            if (place >= 0 && place < PLACES) {
                values[place] = value;
                labels[place] = label;
            }
        }

        void append(int value, int label) {
            if (many < PLACES) {
                put(many, value, label);
                many++;
            }
        }

        void lengthen(int least) {
            for (int k = many; k < least; k++) {
                append(0, 0);
            }
        }

        void exchange(int place, int other) {
            int value = valueOf(place);
            int label = tagOf(place);
            put(place, valueOf(other), tagOf(other));
            put(other, value, label);
        }

        // The source may be this row itself: no place is written before it has been read.
        void become(Row source, int from, int to) {
            int had = source.many;
            kind = source.kind;
            many = 0;
            for (int k = from; k < to; k++) {
                if (k < had) {
                    append(source.valueOf(k), source.tagOf(k));
                } else {
                    append(0, 0);
                }
            }
        }

        boolean hasPart(int from, int to) {
            return from >= 0 && from <= to && to <= many;
        }

        // Only what is greater is passed, so that things that are alike keep their sequence.
        void arrange(int from, int to, int way) {
            for (int k = from + 1; k < to; k++) {
                int value = valueOf(k);
                int label = tagOf(k);
                int key = keyOf(value, label, way);
                int place = k;
                while (place > from && keyOf(valueOf(place - 1), tagOf(place - 1), way) > key) {
                    put(place, valueOf(place - 1), tagOf(place - 1));
                    place--;
                }
                put(place, value, label);
            }
        }

        // Only pairs are sorted by falling values: none of these is too low to change its sign.
        private static int keyOf(int value, int label, int way) {
            switch (way) {
                case BY_VALUES_FALLING:
                    return -value;
                case BY_TAGS:
                    return label;
                case BY_TAGS_FALLING:
                    return -label;
                case BY_LAST_DIGIT:
                    return (value < 0 ? -value : value) % 10;
                default:
                    return value;
            }
        }

        int firstFall() {
            for (int k = 0; k + 1 < many; k++) {
                if (valueOf(k) > valueOf(k + 1)) {
                    return k;
                }
            }
            return NONE;
        }

        boolean rises() {
            return firstFall() == NONE;
        }

        // Counted from the earlier places, so that isSound() can hold the later ones against it.
        int countInversions() {
            int count = 0;
            for (int k = 0; k < many; k++) {
                count += countSmallerBehind(k);
            }
            return count;
        }

        int countGreaterAhead(int place) {
            int count = 0;
            for (int k = 0; k < place; k++) {
                if (valueOf(k) > valueOf(place)) {
                    count++;
                }
            }
            return count;
        }

        int countSmallerBehind(int place) {
            int count = 0;
            for (int k = place + 1; k < many; k++) {
                if (valueOf(k) < valueOf(place)) {
                    count++;
                }
            }
            return count;
        }

        int countSmaller(int value) {
            int count = 0;
            for (int k = 0; k < many; k++) {
                if (valueOf(k) < value) {
                    count++;
                }
            }
            return count;
        }

        int countLikes(int value) {
            int count = 0;
            for (int k = 0; k < many; k++) {
                if (valueOf(k) == value) {
                    count++;
                }
            }
            return count;
        }

        int countGreater(int value) {
            int count = 0;
            for (int k = 0; k < many; k++) {
                if (valueOf(k) > value) {
                    count++;
                }
            }
            return count;
        }

        int countThing(int value, int label) {
            int count = 0;
            for (int k = 0; k < many; k++) {
                if (valueOf(k) == value && tagOf(k) == label) {
                    count++;
                }
            }
            return count;
        }

        /** The first place of a value in a part of this rising row, or -1 less the place for it. */
        int find(int from, int to, int value) {
            int place = from;
            while (place < to && valueOf(place) < value) {
                place++;
            }
            return place < to && valueOf(place) == value ? place : NONE - place;
        }

        int findLast(int value) {
            for (int k = many - 1; k >= 0; k--) {
                if (valueOf(k) == value) {
                    return k;
                }
            }
            return NONE;
        }

        /** How many unlike values this rising row has: like ones stand side by side in it. */
        int countRuns() {
            int count = 0;
            for (int k = 0; k < many; k++) {
                if (k == 0 || valueOf(k) != valueOf(k - 1)) {
                    count++;
                }
            }
            return count;
        }

        int firstOfMostLikes() {
            int best = valueOf(0);
            int most = 0;
            for (int k = 0; k < many; k++) {
                int count = countLikes(valueOf(k));
                if (count > most) {
                    most = count;
                    best = valueOf(k);
                }
            }
            return best;
        }

        int firstDifference(Row other) {
            int both = many < other.many ? many : other.many;
            for (int k = 0; k < both; k++) {
                if (valueOf(k) != other.valueOf(k)) {
                    return k;
                }
            }
            return many == other.many ? NONE : both;
        }

        int orderTo(Row other) {
            int place = firstDifference(other);
            if (place == NONE) {
                return 0;
            }
            if (place < many && place < other.many) {
                return valueOf(place) < other.valueOf(place) ? -1 : 1;
            }
            return many < other.many ? -1 : 1;
        }

        boolean hasValuesOf(Row other) {
            if (many != other.many) {
                return false;
            }
            for (int k = 0; k < many; k++) {
                if (countLikes(valueOf(k)) != other.countLikes(valueOf(k))) {
                    return false;
                }
            }
            return true;
        }

        boolean hasBagOf(Row other) {
            if (many != other.many) {
                return false;
            }
            for (int k = 0; k < many; k++) {
                if (countThing(valueOf(k), tagOf(k)) != other.countThing(valueOf(k), tagOf(k))) {
                    return false;
                }
            }
            return true;
        }

        boolean isSameAs(Row other) {
            if (kind != other.kind || many != other.many) {
                return false;
            }
            for (int k = 0; k < many; k++) {
                if (valueOf(k) != other.valueOf(k) || tagOf(k) != other.tagOf(k)) {
                    return false;
                }
            }
            return true;
        }
    }
}
