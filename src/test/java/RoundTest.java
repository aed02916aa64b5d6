import java.math.BigInteger;

/** Promise 8: round. */
public final class RoundTest {
    private static final Check CHECK = new Check();

    public static void main(String[] args) {
        byEachRule();
        toUnits();
        longOnes();
        refused();
        CHECK.end();
    }

    /** What the rules 0 to 6 make of above / below with the unit. */
    private static void rounds(long above, long below, long unit, String... due) {
        KiloFractions x = new KiloFractions();
        x.value(above, below);
        for (int i = 0; i < due.length; i++) {
            int rule = i;
            CHECK.answers("round of " + above + "/" + below, i + 1, () -> x.round(0, rule, unit));
            CHECK.is(due[i], x, i + 1);
        }
    }

    private static void byEachRule() {
        rounds(7, 2, 1, "3/1", "4/1", "3/1", "4/1", "4/1", "4/1", "3/1");
        rounds(-7, 2, 1, "-4/1", "-3/1", "-3/1", "-4/1", "-3/1", "-4/1", "-4/1");
        rounds(5, 2, 1, "2/1", "3/1", "2/1", "3/1", "3/1", "2/1", "2/1");
        rounds(-5, 2, 1, "-3/1", "-2/1", "-2/1", "-3/1", "-2/1", "-2/1", "-3/1");
        rounds(1, 3, 1, "0/1", "1/1", "0/1", "1/1", "0/1", "0/1", "0/1");
        rounds(-1, 3, 1, "-1/1", "0/1", "0/1", "-1/1", "0/1", "0/1", "0/1");
        rounds(2, 3, 1, "0/1", "1/1", "0/1", "1/1", "1/1", "1/1", "1/1");
        rounds(-2, 3, 1, "-1/1", "0/1", "0/1", "-1/1", "-1/1", "-1/1", "-1/1");
        rounds(1, 2, 1, "0/1", "1/1", "0/1", "1/1", "1/1", "0/1", "0/1");
        rounds(-1, 2, 1, "-1/1", "0/1", "0/1", "-1/1", "0/1", "0/1", "-1/1");
        rounds(9, 1, 1, "9/1", "9/1", "9/1", "9/1", "9/1", "9/1", "9/1");
        rounds(-9, 1, 1, "-9/1", "-9/1", "-9/1", "-9/1", "-9/1", "-9/1", "-9/1");
        rounds(0, 1, 7, "0/1", "0/1", "0/1", "0/1", "0/1", "0/1", "0/1");
    }

    private static void toUnits() {
        rounds(1, 8, 4, "0/1", "1/4", "0/1", "1/4", "1/4", "0/1", "0/1");
        rounds(3, 8, 4, "1/4", "1/2", "1/4", "1/2", "1/2", "1/2", "1/4");
        rounds(-3, 8, 4, "-1/2", "-1/4", "-1/4", "-1/2", "-1/4", "-1/2", "-1/2");
        rounds(1, 3, 3, "1/3", "1/3", "1/3", "1/3", "1/3", "1/3", "1/3");
        rounds(1, 3, 1_000_000_000, "333333333/1000000000", "166666667/500000000");
        rounds(Long.MIN_VALUE, 3, 1, "-3074457345618258603/1", "-3074457345618258602/1");
    }

    private static void longOnes() {
        KiloFractions x = new KiloFractions();
        int big = Check.whole(x, Check.nines(48));
        int least = x.over(x.value(1, 1), big);
        int next = least + 1;
        CHECK.answers("round(big, 0, 10^9)", next, () -> x.round(big, 0, 1_000_000_000));
        CHECK.is(Check.nines(48) + "/1", x, next);
        CHECK.answers("round(least, 3, 10^9)", next + 1, () -> x.round(least, 3, 1_000_000_000));
        CHECK.is("1/1000000000", x, next + 1);

        KiloFractions y = new KiloFractions();
        BigInteger upper = BigInteger.TEN.pow(48).subtract(BigInteger.TWO);
        int seventh = y.over(Check.whole(y, upper.toString()), y.value(7, 1));
        int after = seventh + 1;
        CHECK.answers("round to a too long value", -1, () -> y.round(seventh, 0, 1_000_000_000));
        CHECK.noIndex("what -1 has not made", () -> y.sign(after));
        CHECK.answers("round(seventh, 0, 10)", after, () -> y.round(seventh, 0, 10));
        BigInteger tenths = upper.multiply(BigInteger.TEN).divide(BigInteger.valueOf(7));
        BigInteger common = tenths.gcd(BigInteger.TEN);
        CHECK.is(tenths.divide(common) + "/" + BigInteger.TEN.divide(common), y, after);
    }

    private static void refused() {
        KiloFractions x = Check.withValues(99);
        CHECK.noIndex("round(99, 0, 1)", () -> x.round(99, 0, 1));
        CHECK.noIndex("round(-1, 0, 1)", () -> x.round(-1, 0, 1));
        CHECK.noIndex("round(0, -1, 1)", () -> x.round(0, -1, 1));
        CHECK.noIndex("round(0, 7, 1)", () -> x.round(0, 7, 1));
        CHECK.noIndex("round(0, 7, 0)", () -> x.round(0, 7, 0));
        CHECK.noIndex("round(99, 0, 0)", () -> x.round(99, 0, 0));
        for (long unit : new long[] {0, -1, 1_000_000_001L, (1L << 32) + 1, Long.MIN_VALUE, Long.MAX_VALUE}) {
            CHECK.noRange("round(0, 6, " + unit + ")", () -> x.round(0, 6, unit));
        }
        CHECK.answers("round(98, 6, 1)", 99, () -> x.round(98, 6, 1));
        CHECK.noMeaning("round(0, 0, 1) of a full object", () -> x.round(0, 0, 1));
        CHECK.noRange("round(0, 0, 0) of a full object", () -> x.round(0, 0, 0));
        CHECK.noIndex("round(0, 7, 0) of a full object", () -> x.round(0, 7, 0));
        CHECK.noIndex("round(100, 0, 0) of a full object", () -> x.round(100, 0, 0));
    }
}
