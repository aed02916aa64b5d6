import java.math.BigInteger;
import java.util.ArrayList;
import java.util.List;

/** A second reckoning of the document with BigInteger, to hold the class against. */
final class Model {
    private static final BigInteger LIMIT = BigInteger.TEN.pow(48);
    private static final long BILLION = 1_000_000_000L;

    private final List<BigInteger[]> values = new ArrayList<>();
    private final List<int[]> spans = new ArrayList<>();
    private final List<Long> weights = new ArrayList<>();
    private BigInteger[] rest = {BigInteger.ZERO, BigInteger.ONE};

    int valueCount() {
        return values.size();
    }

    int spanCount() {
        return spans.size();
    }

    int weightCount() {
        return weights.size();
    }

    String text(int a) {
        return values.get(a)[0] + "/" + values.get(a)[1];
    }

    int value(long above, long below) {
        meaning(values.size() < 100);
        arithmetic(below != 0);
        return keep(lowest(BigInteger.valueOf(above), BigInteger.valueOf(below)));
    }

    int add(int a, int b) {
        index(isValue(a) && isValue(b));
        meaning(values.size() < 100);
        return keep(sum(values.get(a), values.get(b)));
    }

    int less(int a, int b) {
        index(isValue(a) && isValue(b));
        meaning(values.size() < 100);
        return keep(sum(values.get(a), new BigInteger[] {values.get(b)[0].negate(), values.get(b)[1]}));
    }

    int times(int a, int b) {
        index(isValue(a) && isValue(b));
        meaning(values.size() < 100);
        return keep(product(values.get(a), values.get(b)));
    }

    int over(int a, int b) {
        index(isValue(a) && isValue(b));
        meaning(values.size() < 100);
        arithmetic(values.get(b)[0].signum() != 0);
        return keep(product(values.get(a), new BigInteger[] {values.get(b)[1], values.get(b)[0]}));
    }

    int order(int a, int b) {
        index(isValue(a) && isValue(b));
        return compare(a, b);
    }

    int round(int a, int rule, long unit) {
        index(isValue(a) && rule >= 0 && rule <= 6);
        range(unit >= 1 && unit <= BILLION);
        meaning(values.size() < 100);
        BigInteger u = BigInteger.valueOf(unit);
        BigInteger above = values.get(a)[0].multiply(u);
        BigInteger below = values.get(a)[1];
        BigInteger low = floor(above, below);
        BigInteger high = floor(above.negate(), below).negate();
        BigInteger twice = above.multiply(BigInteger.TWO).subtract(low.add(high).multiply(below));
        return keep(lowest(chosen(low, high, twice.signum(), above.signum(), rule), u));
    }

    /** The whole number by the rule: side tells whether the low one (-1) or the high one (1) is nearer. */
    private static BigInteger chosen(BigInteger low, BigInteger high, int side, int sign, int rule) {
        if (rule == 0) {
            return low;
        }
        if (rule == 1) {
            return high;
        }
        if (rule == 2) {
            return sign < 0 ? high : low;
        }
        if (rule == 3) {
            return sign < 0 ? low : high;
        }
        if (side != 0) {
            return side < 0 ? low : high;
        }
        if (rule == 5) {
            return low.testBit(0) ? high : low;
        }
        return rule == 4 ? high : low;
    }

    int span(int low, int high) {
        index(isValue(low) && isValue(high));
        meaning(compare(low, high) <= 0 && spans.size() < 30);
        spans.add(new int[] {low, high});
        return spans.size() - 1;
    }

    int spanTimes(int s, int a) {
        index(isSpan(s) && isValue(a));
        meaning(spans.size() < 30 && values.size() <= 98);
        BigInteger[] one = product(values.get(spans.get(s)[0]), values.get(a));
        BigInteger[] two = product(values.get(spans.get(s)[1]), values.get(a));
        if (isTooLong(one) || isTooLong(two)) {
            return -1;
        }
        boolean turned = values.get(a)[0].signum() < 0;
        int low = keep(turned ? two : one);
        int high = keep(turned ? one : two);
        return span(low, high);
    }

    int end(int s, int which) {
        index(isSpan(s) && (which == 0 || which == 1));
        return spans.get(s)[which];
    }

    boolean within(int s, int a) {
        index(isSpan(s) && isValue(a));
        return compare(spans.get(s)[0], a) <= 0 && compare(a, spans.get(s)[1]) <= 0;
    }

    int weight(long w) {
        range(w >= 0 && w <= BILLION);
        meaning(weights.size() < 20);
        weights.add(w);
        return weights.size();
    }

    long share(long whole, int k) {
        index(k >= 0 && k < weights.size());
        range(whole >= 0 && whole <= BILLION);
        long sum = weights.stream().mapToLong(w -> w).sum();
        arithmetic(sum != 0);
        long[] shares = new long[weights.size()];
        long[] remainders = new long[weights.size()];
        long left = whole;
        for (int i = 0; i < shares.length; i++) {
            shares[i] = whole * weights.get(i) / sum;
            remainders[i] = whole * weights.get(i) % sum;
            left -= shares[i];
        }
        for (; left > 0; left--) {
            int best = 0;
            for (int i = 1; i < shares.length; i++) {
                best = remainders[i] > remainders[best] ? i : best;
            }
            shares[best]++;
            remainders[best] = -1;
        }
        return shares[k];
    }

    int giving(int a) {
        index(isValue(a));
        meaning(values.size() < 100);
        BigInteger[] all = sum(values.get(a), rest);
        BigInteger[] given = {floor(all[0], all[1]), BigInteger.ONE};
        BigInteger[] left = sum(all, new BigInteger[] {given[0].negate(), BigInteger.ONE});
        if (isTooLong(given) || isTooLong(left)) {
            return -1;
        }
        rest = left;
        return keep(given);
    }

    int rest() {
        meaning(values.size() < 100);
        return keep(rest);
    }

    int sign(int a) {
        index(isValue(a));
        return values.get(a)[0].signum();
    }

    int digit(int a, int part, int i) {
        index(isValue(a) && (part == 0 || part == 1));
        String text = values.get(a)[part].abs().toString();
        index(i >= 0 && i < text.length());
        return text.charAt(text.length() - 1 - i) - '0';
    }

    private boolean isValue(int a) {
        return a >= 0 && a < values.size();
    }

    private boolean isSpan(int s) {
        return s >= 0 && s < spans.size();
    }

    private int compare(int a, int b) {
        BigInteger[] x = values.get(a);
        BigInteger[] y = values.get(b);
        return x[0].multiply(y[1]).compareTo(y[0].multiply(x[1]));
    }

    private int keep(BigInteger[] value) {
        if (isTooLong(value)) {
            return -1;
        }
        values.add(value);
        return values.size() - 1;
    }

    private static boolean isTooLong(BigInteger[] value) {
        return value[0].abs().compareTo(LIMIT) >= 0 || value[1].compareTo(LIMIT) >= 0;
    }

    private static BigInteger floor(BigInteger above, BigInteger below) {
        BigInteger[] parts = above.divideAndRemainder(below);
        return parts[1].signum() < 0 ? parts[0].subtract(BigInteger.ONE) : parts[0];
    }

    private static BigInteger[] sum(BigInteger[] x, BigInteger[] y) {
        return lowest(x[0].multiply(y[1]).add(y[0].multiply(x[1])), x[1].multiply(y[1]));
    }

    private static BigInteger[] product(BigInteger[] x, BigInteger[] y) {
        return lowest(x[0].multiply(y[0]), x[1].multiply(y[1]));
    }

    private static BigInteger[] lowest(BigInteger above, BigInteger below) {
        BigInteger common = above.gcd(below);
        BigInteger divisor = below.signum() < 0 ? common.negate() : common;
        return new BigInteger[] {above.divide(divisor), below.divide(divisor)};
    }

    private static void index(boolean holds) {
        if (!holds) {
            throw new IndexOutOfBoundsException();
        }
    }

    private static void range(boolean holds) {
        if (!holds) {
            throw new IllegalArgumentException();
        }
    }

    private static void meaning(boolean holds) {
        if (!holds) {
            throw new UnsupportedOperationException();
        }
    }

    private static void arithmetic(boolean holds) {
        if (!holds) {
            throw new ArithmeticException();
        }
    }
}
