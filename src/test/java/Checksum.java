import java.math.BigInteger;

/** The checksum of promise 45, reckoned from what the other methods answer. */
final class Checksum {
    private Checksum() {
    }

    private static BigInteger step(BigInteger d, long v) {
        return d.multiply(BigInteger.valueOf(31)).add(BigInteger.valueOf(v));
    }

    private static BigInteger signs(BigInteger d, String text) {
        BigInteger sum = d;
        for (char sign : text.toCharArray()) {
            sum = step(sum, sign);
        }
        return sum;
    }

    private static BigInteger row(BigInteger before, Risingbag x, int row) {
        BigInteger d = step(step(before, x.kind(row)), x.size(row));
        d = signs(signs(d, x.text(row)), x.tags(row));
        d = step(d, x.isRising(row) ? 1 : 0);
        d = step(step(d, x.inversions(row)), x.unlike(row));
        for (int place = 0; place < x.size(row); place++) {
            d = step(d, x.nth(row, place));
        }
        for (int other = 0; other < 6; other++) {
            d = step(step(d, x.compare(row, other)), x.mismatch(row, other));
        }
        return d;
    }

    /** The number d as it would be if nothing wrapped around. */
    static BigInteger of(Risingbag x) {
        BigInteger d = BigInteger.valueOf(7806);
        for (int what = 0; what <= 5; what++) {
            d = step(d, x.house(what));
        }
        for (int row = 0; row < 6; row++) {
            d = row(d, x, row);
        }
        return step(d, x.isSound() ? 1 : 0);
    }
}
