import java.util.ArrayList;
import java.util.Arrays;
import java.util.Comparator;
import java.util.List;
import java.util.Random;
import java.util.TreeMap;

/** All promises: long runs of calls, each answered by the class and by a model on the Java library. */
final class ModelTest {
    private static final int RUNS = 600;
    // With a digest behind every eighth of them that makes 504: the document gives an object 512.
    private static final int CALLS = 448;
    private static final String[] NAMES = {
        "make", "set", "tag", "swap", "add", "fill", "ramp", "resize", "sort", "sortPart", "sortHalves", "sortBy",
        "rise", "copy", "copyPart", "merge", "compare", "mismatch", "areEqual", "areAlike", "kind", "size", "at",
        "tagAt", "text", "tags", "isRising", "inversions", "inversionsAt", "smaller", "likes", "greater", "search",
        "searchPart", "last", "nth", "median", "unlike", "mode", "hash", "house", "knock", "isSound", "digest"};

    /** What the document says, held as lists of pairs of a value and a tag. */
    private static final class Model {
        private final int[] kinds = new int[6];
        private final List<List<int[]>> rows = new ArrayList<>();
        private int sortings;
        private int refusals;
        private int knocks;

        Model() {
            for (int k = 0; k < 6; k++) {
                rows.add(new ArrayList<>());
            }
        }

        private List<int[]> row(int row) {
            if (row < 0 || row > 5) {
                throw new IndexOutOfBoundsException();
            }
            return rows.get(row);
        }

        private void place(int row, int place) {
            if (place < 0 || place >= rows.get(row).size()) {
                throw new IndexOutOfBoundsException();
            }
        }

        private static void argument(boolean good) {
            if (!good) {
                throw new IllegalArgumentException();
            }
        }

        private static void state(boolean good) {
            if (!good) {
                throw new IllegalStateException();
            }
        }

        private void value(int row, int value) {
            int[] least = {Integer.MIN_VALUE, Integer.MIN_VALUE, -128, 0, -999};
            int[] most = {Integer.MAX_VALUE, Integer.MAX_VALUE, 127, 255, 999};
            argument(least[kinds[row]] <= value && value <= most[kinds[row]]);
        }

        private boolean noPart(int row, int from, int to) {
            return from > to || from < 0 || to > rows.get(row).size();
        }

        private int refuse() {
            refusals++;
            return -9;
        }

        private int[] values(int row) {
            return rows.get(row).stream().mapToInt(thing -> thing[0]).toArray();
        }

        private int[] sorted(int row) {
            return rows.get(row).stream().mapToInt(thing -> thing[0]).sorted().toArray();
        }

        private boolean rises(int row) {
            return Arrays.equals(values(row), sorted(row));
        }

        private int inversionsOf(int row) {
            int[] values = values(row);
            int count = 0;
            for (int later = 0; later < values.length; later++) {
                int value = values[later];
                count += (int) Arrays.stream(values, 0, later).filter(v -> v > value).count();
            }
            return count;
        }

        private static Comparator<int[]> order(int way) {
            Comparator<int[]> byValue = Comparator.comparingInt(thing -> thing[0]);
            Comparator<int[]> byTag = Comparator.comparingInt(thing -> thing[1]);
            switch (way) {
                case 0: return byValue;
                case 1: return byValue.reversed();
                case 2: return byTag;
                case 3: return byTag.reversed();
                default: return Comparator.comparingInt(thing -> Math.floorMod(Math.abs(thing[0]), 10));
            }
        }

        private static List<int[]> copyOf(List<int[]> things) {
            List<int[]> copy = new ArrayList<>();
            things.forEach(thing -> copy.add(thing.clone()));
            return copy;
        }

        private static void pad(List<int[]> things, int many) {
            while (things.size() < many) {
                things.add(new int[2]);
            }
        }

        Object answer(String name, int[] a) {
            if (name.equals("house")) {
                argument(0 <= a[0] && a[0] <= 5);
                return house(a[0]);
            }
            if (name.equals("knock")) {
                return ++knocks;
            }
            if (name.equals("isSound")) {
                return true;
            }
            if (name.equals("digest")) {
                return digest();
            }
            List<int[]> r = row(a[0]);
            Object changed = change(name, a, r);
            return changed != null ? changed : asked(name, a, r);
        }

        private Object change(String name, int[] a, List<int[]> r) {
            int before;
            switch (name) {
                case "make":
                    argument(0 <= a[1] && a[1] <= 4 && 0 <= a[2] && a[2] <= 24);
                    before = r.size();
                    kinds[a[0]] = a[1];
                    r.clear();
                    pad(r, a[2]);
                    return before;
                case "set":
                    place(a[0], a[1]);
                    value(a[0], a[2]);
                    before = r.get(a[1])[0];
                    r.get(a[1])[0] = a[2];
                    return before;
                case "tag":
                    place(a[0], a[1]);
                    argument(0 <= a[2] && a[2] <= 99);
                    state(kinds[a[0]] == 4);
                    before = r.get(a[1])[1];
                    r.get(a[1])[1] = a[2];
                    return before;
                case "swap":
                    place(a[0], a[1]);
                    place(a[0], a[2]);
                    java.util.Collections.swap(r, a[1], a[2]);
                    return inversionsOf(a[0]);
                case "add":
                    value(a[0], a[1]);
                    if (r.size() == 24) {
                        return refuse();
                    }
                    r.add(new int[] {a[1], 0});
                    return r.size();
                case "fill":
                    value(a[0], a[3]);
                    if (noPart(a[0], a[1], a[2])) {
                        return refuse();
                    }
                    r.subList(a[1], a[2]).forEach(thing -> thing[0] = a[3]);
                    return a[2] - a[1];
                case "ramp":
                    argument(Math.abs((long) a[1]) <= 9999 && Math.abs((long) a[2]) <= 9999);
                    argument(1 <= a[3] && a[3] <= 9999);
                    if (kinds[a[0]] != 0) {
                        return refuse();
                    }
                    for (int k = 0; k < r.size(); k++) {
                        r.get(k)[0] = (a[1] + a[2] * k) % a[3];
                    }
                    return r.size();
                case "resize":
                    argument(-1 <= a[1] && a[1] <= 24);
                    if (a[1] == -1) {
                        return refuse();
                    }
                    before = r.size();
                    if (a[1] < before) {
                        r.subList(a[1], before).clear();
                    }
                    pad(r, a[1]);
                    return before;
                default:
                    return sorting(name, a, r);
            }
        }

        private Object sorting(String name, int[] a, List<int[]> r) {
            int before = inversionsOf(a[0]);
            switch (name) {
                case "sort":
                    sortings++;
                    r.sort(order(0));
                    return before;
                case "sortPart":
                    if (noPart(a[0], a[1], a[2])) {
                        return refuse();
                    }
                    sortings++;
                    r.subList(a[1], a[2]).sort(order(0));
                    return inversionsOf(a[0]);
                case "sortHalves":
                    if (a[1] < 0 || a[1] > r.size()) {
                        return refuse();
                    }
                    sortings++;
                    r.subList(0, a[1]).sort(order(0));
                    r.subList(a[1], r.size()).sort(order(0));
                    return inversionsOf(a[0]);
                case "sortBy":
                    argument(0 <= a[1] && a[1] <= 4);
                    state(kinds[a[0]] == 4);
                    sortings++;
                    r.sort(order(a[1]));
                    return inversionsOf(a[0]);
                case "rise":
                    for (int k = 1; k < r.size(); k++) {
                        if (r.get(k - 1)[0] > r.get(k)[0]) {
                            java.util.Collections.swap(r, k - 1, k);
                            return k - 1;
                        }
                    }
                    return -1;
                default:
                    return several(name, a, r);
            }
        }

        private Object several(String name, int[] a, List<int[]> r) {
            List<int[]> taken;
            switch (name) {
                case "copy":
                    row(a[1]);
                    rows.set(a[1], copyOf(r));
                    kinds[a[1]] = kinds[a[0]];
                    return r.size();
                case "copyPart":
                    row(a[3]);
                    if (a[1] > a[2] || a[1] < 0 || a[1] > r.size() || (long) a[2] - a[1] > 24) {
                        return refuse();
                    }
                    taken = copyOf(r.subList(a[1], Math.min(a[2], r.size())));
                    pad(taken, a[2] - a[1]);
                    rows.set(a[3], taken);
                    kinds[a[3]] = kinds[a[0]];
                    return taken.size();
                case "merge":
                    taken = copyOf(row(a[1]));
                    if (kinds[a[0]] != kinds[a[1]] || r.size() + taken.size() > 24) {
                        return refuse();
                    }
                    sortings++;
                    r.addAll(taken);
                    r.sort(order(0));
                    return r.size();
                case "compare":
                    row(a[1]);
                    return compared(a[0], a[1]);
                case "mismatch":
                    row(a[1]);
                    return mismatched(a[0], a[1]);
                case "areEqual":
                    row(a[1]);
                    return kinds[a[0]] == kinds[a[1]] && Arrays.equals(values(a[0]), values(a[1]));
                case "areAlike":
                    row(a[1]);
                    return kinds[a[0]] == kinds[a[1]] && Arrays.equals(sorted(a[0]), sorted(a[1]));
                default:
                    return null;
            }
        }

        private int compared(int row, int other) {
            return kinds[row] != kinds[other] ? -9 : Integer.signum(Arrays.compare(values(row), values(other)));
        }

        private int mismatched(int row, int other) {
            return kinds[row] != kinds[other] ? -9 : Arrays.mismatch(values(row), values(other));
        }

        private Object asked(String name, int[] a, List<int[]> r) {
            int[] values = values(a[0]);
            switch (name) {
                case "kind": return kinds[a[0]];
                case "size": return r.size();
                case "at":
                    place(a[0], a[1]);
                    return values[a[1]];
                case "tagAt":
                    place(a[0], a[1]);
                    state(kinds[a[0]] == 4);
                    return r.get(a[1])[1];
                case "text": return text(a[0]);
                case "tags": return tags(a[0]);
                case "isRising": return rises(a[0]);
                case "inversions": return inversionsOf(a[0]);
                case "inversionsAt":
                    place(a[0], a[1]);
                    return (int) Arrays.stream(values, 0, a[1]).filter(v -> v > values[a[1]]).count();
                case "nth":
                    place(a[0], a[1]);
                    return sorted(a[0])[a[1]];
                case "median":
                    state(!r.isEmpty());
                    return sorted(a[0])[(r.size() - 1) / 2];
                case "unlike": return unlikes(a[0]);
                case "mode":
                    state(!r.isEmpty());
                    return mode(values);
                case "hash": return kinds[a[0]] == 0 ? Arrays.hashCode(values) : -9;
                default:
                    return valued(name, a, values);
            }
        }

        private Object valued(String name, int[] a, int[] values) {
            int value = a[a.length - 1];
            value(a[0], value);
            switch (name) {
                case "smaller": return (int) Arrays.stream(values).filter(v -> v < value).count();
                case "likes": return (int) Arrays.stream(values).filter(v -> v == value).count();
                case "greater": return (int) Arrays.stream(values).filter(v -> v > value).count();
                default:
            }
            state(rises(a[0]));
            if (name.equals("search")) {
                return found(values, 0, values.length, value);
            }
            if (name.equals("searchPart")) {
                return noPart(a[0], a[1], a[2]) ? -9999 : found(values, a[1], a[2], value);
            }
            int place = values.length;
            while (--place >= 0 && values[place] != value) {
                continue;
            }
            return place;
        }

        private static int found(int[] values, int from, int to, int value) {
            int place = Arrays.binarySearch(values, from, to, value);
            while (place > from && values[place - 1] == value) {
                place--;
            }
            return place;
        }

        private static int mode(int[] values) {
            TreeMap<Integer, Integer> counts = new TreeMap<>();
            Arrays.stream(values).forEach(v -> counts.merge(v, 1, Integer::sum));
            int most = counts.values().stream().mapToInt(n -> n).max().getAsInt();
            return counts.keySet().stream().filter(v -> counts.get(v) == most).findFirst().get();
        }

        private int unlikes(int row) {
            return (int) Arrays.stream(values(row)).distinct().count();
        }

        private String text(int row) {
            return Arrays.toString(values(row));
        }

        private String tags(int row) {
            int[] tags = rows.get(row).stream().mapToInt(thing -> thing[1]).toArray();
            return kinds[row] == 4 ? Arrays.toString(tags) : "-";
        }

        private int house(int what) {
            int sum = 0;
            for (int row = 0; row < 6; row++) {
                sum += what == 0 ? rows.get(row).size() : what == 1 ? (rises(row) ? 1 : 0) : inversionsOf(row);
            }
            return what == 3 ? sortings : what == 4 ? refusals : what == 5 ? knocks : sum;
        }

        private long digest() {
            List<Long> all = new ArrayList<>();
            for (int what = 0; what <= 5; what++) {
                all.add((long) house(what));
            }
            for (int row = 0; row < 6; row++) {
                all.add((long) kinds[row]);
                all.add((long) rows.get(row).size());
                text(row).chars().forEach(sign -> all.add((long) sign));
                tags(row).chars().forEach(sign -> all.add((long) sign));
                all.add(rises(row) ? 1L : 0L);
                all.add((long) inversionsOf(row));
                all.add((long) unlikes(row));
                Arrays.stream(sorted(row)).forEach(value -> all.add((long) value));
                for (int other = 0; other < 6; other++) {
                    all.add((long) compared(row, other));
                    all.add((long) mismatched(row, other));
                }
            }
            all.add(1L);
            long d = 7806;
            for (long v : all) {
                d = d * 31 + v;
            }
            return d;
        }
    }

    private static Object call(Risingbag x, String name, int[] a) {
        switch (name) {
            case "make": return x.make(a[0], a[1], a[2]);
            case "set": return x.set(a[0], a[1], a[2]);
            case "tag": return x.tag(a[0], a[1], a[2]);
            case "swap": return x.swap(a[0], a[1], a[2]);
            case "add": return x.add(a[0], a[1]);
            case "fill": return x.fill(a[0], a[1], a[2], a[3]);
            case "ramp": return x.ramp(a[0], a[1], a[2], a[3]);
            case "resize": return x.resize(a[0], a[1]);
            case "sort": return x.sort(a[0]);
            case "sortPart": return x.sortPart(a[0], a[1], a[2]);
            case "sortHalves": return x.sortHalves(a[0], a[1]);
            case "sortBy": return x.sortBy(a[0], a[1]);
            case "rise": return x.rise(a[0]);
            case "copy": return x.copy(a[0], a[1]);
            case "copyPart": return x.copyPart(a[0], a[1], a[2], a[3]);
            case "merge": return x.merge(a[0], a[1]);
            case "compare": return x.compare(a[0], a[1]);
            case "mismatch": return x.mismatch(a[0], a[1]);
            case "areEqual": return x.areEqual(a[0], a[1]);
            case "areAlike": return x.areAlike(a[0], a[1]);
            case "kind": return x.kind(a[0]);
            case "size": return x.size(a[0]);
            case "at": return x.at(a[0], a[1]);
            case "tagAt": return x.tagAt(a[0], a[1]);
            case "text": return x.text(a[0]);
            case "tags": return x.tags(a[0]);
            case "isRising": return x.isRising(a[0]);
            case "inversions": return x.inversions(a[0]);
            case "inversionsAt": return x.inversionsAt(a[0], a[1]);
            case "smaller": return x.smaller(a[0], a[1]);
            case "likes": return x.likes(a[0], a[1]);
            case "greater": return x.greater(a[0], a[1]);
            case "search": return x.search(a[0], a[1]);
            case "searchPart": return x.searchPart(a[0], a[1], a[2], a[3]);
            case "last": return x.last(a[0], a[1]);
            case "nth": return x.nth(a[0], a[1]);
            case "median": return x.median(a[0]);
            case "unlike": return x.unlike(a[0]);
            case "mode": return x.mode(a[0]);
            case "hash": return x.hash(a[0]);
            case "house": return x.house(a[0]);
            case "knock": return x.knock();
            case "isSound": return x.isSound();
            default: return x.digest();
        }
    }

    private static final int[] ODD = {
        Integer.MIN_VALUE, Integer.MIN_VALUE + 1, -10000, -9999, -1000, -999, -129, -128, -9, -2, -1, 0, 1, 4, 5, 6, 23,
        24, 25, 99, 100, 127, 128, 255, 256, 999, 1000, 9999, 10000, Integer.MAX_VALUE - 1, Integer.MAX_VALUE};

    private static int rowNumber(Random random, int used) {
        return random.nextInt(40) == 0 ? ODD[random.nextInt(ODD.length)] : random.nextInt(used);
    }

    private static int number(Random random, int span) {
        switch (random.nextInt(8)) {
            case 0: return ODD[random.nextInt(ODD.length)];
            case 1: return random.nextInt(2 * span + 1) - span;
            case 2: return random.nextInt(100);
            default: return random.nextInt(span);
        }
    }

    private static int[] arguments(Random random, String name, int used, int span) {
        int[] a = {rowNumber(random, used), number(random, span), number(random, span), number(random, span)};
        switch (name) {
            case "copy": case "merge": case "compare": case "mismatch": case "areEqual": case "areAlike":
                return new int[] {a[0], rowNumber(random, used)};
            case "copyPart":
                return new int[] {a[0], a[1], a[2], rowNumber(random, used)};
            case "make":
                return new int[] {a[0], random.nextInt(30) == 0 ? a[1] : random.nextInt(5), a[2]};
            case "house":
                return new int[] {random.nextInt(8) - 1};
            case "smaller": case "likes": case "greater": case "search": case "last":
                return new int[] {a[0], a[1]};
            default:
                return a;
        }
    }

    private static Object answer(java.util.function.Supplier<Object> call) {
        try {
            return call.get();
        } catch (RuntimeException e) {
            return e.getClass().getSimpleName();
        }
    }

    public static void main(String[] args) {
        Check c = new Check("ModelTest");
        for (int run = 0; run < RUNS; run++) {
            Random random = new Random(run);
            Risingbag x = new Risingbag();
            Model model = new Model();
            int used = 1 + run % 6;
            int span = 2 + run % 24;
            for (int k = 0; k < CALLS; k++) {
                // Rows that are made anew too often would stay all 0.
                String drawn = NAMES[random.nextInt(NAMES.length)];
                String name = drawn.equals("make") && random.nextInt(3) > 0 ? "set" : drawn;
                int[] a = arguments(random, name, used, span);
                String what = "run " + run + ", call " + k + ", " + name + Arrays.toString(a);
                c.same(what, answer(() -> call(x, name, a)), answer(() -> model.answer(name, a)));
                if (k % 8 == 7) {
                    c.same(what + ", digest", x.digest(), model.digest());
                }
            }
        }
        c.end();
    }
}
