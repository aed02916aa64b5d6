/** All promises: runs of mixed calls, right and wrong ones, with the answers of a second reckoning. */
public final class ModelTest {
    private static final Check CHECK = new Check();
    private static final int RUNS = 4_000;
    private static final int CALLS = 240;
    private static final int MOST_CALLS = 512;

    /** Far more than the calls that it takes to read one value: two rows of 49, and its sign. */
    private static final int CALLS_TO_READ = 100;

    private static final long[] EDGES = {
        0, 1, -1, 2, 3, 10, 999_999_999L, 1_000_000_000L, 1_000_000_001L, 4_294_967_296L,
        999_999_999_999_999_999L, 1_000_000_000_000_000_000L, 1_000_000_000_000_000_001L,
        Long.MAX_VALUE, Long.MIN_VALUE, Long.MAX_VALUE - 1, Long.MIN_VALUE + 1
    };

    private final KiloFractions x = new KiloFractions();
    private final Model model = new Model();
    private final int style;
    private long state;
    private int calls = 0;

    private ModelTest(int run) {
        style = run % 8;
        state = run * 0x9E3779B97F4A7C15L + 1;
    }

    public static void main(String[] args) {
        for (int run = 0; run < RUNS; run++) {
            new ModelTest(run).calls();
        }
        CHECK.end();
    }

    private void calls() {
        for (int i = 0; i < CALLS; i++) {
            oneCall();
        }
        while (calls + CALLS_TO_READ <= MOST_CALLS && model.valueCount() > 0) {
            int a = below(model.valueCount());
            CHECK.is(model.text(a), x, a);
            calls += CALLS_TO_READ;
        }
    }

    private void oneCall() {
        int a = number(model.valueCount());
        int b = number(model.valueCount());
        switch (below(style == 0 ? 17 : 24)) {
            case 0, 19 -> value(someLong(), someLong());
            case 1, 17 -> same("add " + a + " " + b, () -> model.add(a, b), () -> x.add(a, b));
            case 2 -> same("less " + a + " " + b, () -> model.less(a, b), () -> x.less(a, b));
            case 3, 18, 20 -> same("times " + a + " " + b, () -> model.times(a, b), () -> x.times(a, b));
            case 4, 21 -> same("over " + a + " " + b, () -> model.over(a, b), () -> x.over(a, b));
            case 5 -> same("order " + a + " " + b, () -> model.order(a, b), () -> x.order(a, b));
            case 6, 22 -> round(a, below(12) == 0 ? below(20) - 10 : below(7), someUnit());
            case 7 -> same("span " + a + " " + b, () -> model.span(a, b), () -> x.span(a, b));
            case 8 -> spanTimes(number(model.spanCount()), a);
            case 9 -> end(number(model.spanCount()), below(10) == 0 ? below(5) - 2 : below(2));
            case 10 -> within(number(model.spanCount()), a);
            case 11 -> weight(below(12) == 0 ? someLong() : below(3) == 0 ? below(3) : below(1_000_000_001));
            case 12 -> share(below(12) == 0 ? someLong() : below(2) == 0 ? below(50) : below(1_000_000_001));
            case 13, 23 -> same("giving " + a, () -> model.giving(a), () -> x.giving(a));
            case 14 -> same("rest", () -> model.rest(), () -> x.rest());
            case 15 -> same("sign " + a, () -> model.sign(a), () -> x.sign(a));
            default -> digit(a, below(12) == 0 ? below(8) - 3 : below(2), below(52) - 2);
        }
    }

    private void value(long above, long below) {
        same("value " + above + " " + below, () -> model.value(above, below), () -> x.value(above, below));
    }

    private void round(int a, int rule, long unit) {
        same("round " + a + " " + rule + " " + unit, () -> model.round(a, rule, unit), () -> x.round(a, rule, unit));
    }

    private void spanTimes(int s, int a) {
        same("spanTimes " + s + " " + a, () -> model.spanTimes(s, a), () -> x.spanTimes(s, a));
    }

    private void end(int s, int which) {
        same("end " + s + " " + which, () -> model.end(s, which), () -> x.end(s, which));
    }

    private void within(int s, int a) {
        same("within " + s + " " + a, () -> model.within(s, a), () -> x.within(s, a));
    }

    private void weight(long w) {
        same("weight " + w, () -> model.weight(w), () -> x.weight(w));
    }

    private void share(long whole) {
        int k = number(model.weightCount());
        same("share " + whole + " " + k, () -> model.share(whole, k), () -> x.share(whole, k));
    }

    private void digit(int a, int part, int i) {
        same("digit " + a + " " + part + " " + i, () -> model.digit(a, part, i), () -> x.digit(a, part, i));
    }

    private void same(String what, Check.Call due, Check.Call call) {
        calls++;
        CHECK.answers(what + " in call " + calls, Check.answerOf(due), call);
    }

    /** A number of one of 'count' things: mostly one there is, and rather a late one. */
    private int number(int count) {
        if (below(25) == 0) {
            return below(2) == 0 ? count : (int) next();
        }
        if (count == 0) {
            return below(3) - 1;
        }
        return below(2) == 0 ? below(count) : count - 1 - below(Math.min(count, 6));
    }

    private long someUnit() {
        long[] units = {1, 2, 10, 1000, 999_999_999L, 1_000_000_000L};
        if (below(12) == 0) {
            return someLong();
        }
        return below(3) == 0 ? 1 + below(1_000_000_000) : units[below(units.length)];
    }

    private long someLong() {
        if (below(10) == 0) {
            return EDGES[below(EDGES.length)];
        }
        long sign = below(2) == 0 ? 1 : -1;
        return switch (style) {
            case 0, 1 -> sign * below(20);
            case 2 -> sign * below(1_000_000);
            case 3 -> sign * smooth();
            case 4 -> next();
            case 5 -> below(2) == 0 ? next() : sign * below(10);
            case 6 -> sign * (tenTo(below(19)) + below(3) - 1);
            default -> next() >> below(64);
        };
    }

    /** A product of small primes, so that fractions stay short and find much to cancel. */
    private long smooth() {
        long[] primes = {2, 2, 3, 5, 7, 10, 1000};
        long product = 1;
        for (int i = below(14); i > 0 && product < 1_000_000_000_000L; i--) {
            product *= primes[below(primes.length)];
        }
        return product;
    }

    private static long tenTo(int exponent) {
        long ten = 1;
        for (int i = 0; i < exponent; i++) {
            ten *= 10;
        }
        return ten;
    }

    private int below(int bound) {
        return (int) Math.floorMod(next() >> 8, (long) bound);
    }

    /** A fixed row of numbers that look mixed, the same in every run of the test. */
    private long next() {
        state += 0x9E3779B97F4A7C15L;
        long z = (state ^ (state >>> 30)) * 0xBF58476D1CE4E5B9L;
        z = (z ^ (z >>> 27)) * 0x94D049BB133111EBL;
        return z ^ (z >>> 31);
    }
}
