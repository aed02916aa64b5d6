import java.math.BigInteger;

/** Promise 8: round, with the seven rules of the Terms. */
public final class RoundTest {
    private static final Check CHECK = new Check();
    private static final long MOST = 1_000_000_000L;

    /** The values that each rule rounds to wholes: on both sides of 0, halves, whole ones and 0. */
    private static final long[][] ROUNDED = {
        {7, 2}, {-7, 2}, {5, 2}, {-5, 2}, {1, 2}, {-1, 2}, {1, 3}, {-1, 3}, {2, 3}, {-2, 3}, {9, 1}, {-9, 1}, {0, 1}
    };

    public static void main(String[] args) {
        byRule(0, "0 not above", 3, -4, 2, -3, 0, -1, 0, -1, 0, -1, 9, -9, 0);
        byRule(1, "1 not below", 4, -3, 3, -2, 1, 0, 1, 0, 1, 0, 9, -9, 0);
        byRule(2, "2 not farther from 0", 3, -3, 2, -2, 0, 0, 0, 0, 0, 0, 9, -9, 0);
        byRule(3, "3 not nearer to 0", 4, -4, 3, -3, 1, -1, 1, -1, 1, -1, 9, -9, 0);
        byRule(4, "4 nearest, of two as near the higher", 4, -3, 3, -2, 1, 0, 0, 0, 1, -1, 9, -9, 0);
        byRule(5, "5 nearest, of two as near the one whose n is even", 4, -4, 2, -2, 0, 0, 0, 0, 1, -1, 9, -9, 0);
        byRule(6, "6 nearest, of two as near the lower one", 3, -4, 2, -3, 0, -1, 0, 0, 1, -1, 9, -9, 0);
        toUnits();
        evenIsOfTheUpperNumber();
        leastAndGreatestUnit();
        hardlyBesideTheMiddle();
        noSuchValue();
        noSuchRule();
        noSuchUnit();
        noRoom();
        tooLong();
        longOnlyBeforeLowestTerms();
        CHECK.end();
    }

    /** Terms, "nearest by a RULE": each rule by itself, of each of the values ROUNDED to the unit 1. */
    private static void byRule(int rule, String words, int... due) {
        CHECK.sentence("Terms", words);
        for (int i = 0; i < due.length; i++) {
            KiloFractions x = new KiloFractions();
            x.value(ROUNDED[i][0], ROUNDED[i][1]);
            CHECK.makes("round of " + ROUNDED[i][0] + "/" + ROUNDED[i][1], 1, due[i] + "/1", x,
                    () -> x.round(0, rule, 1));
        }
    }

    /** What the rules 0, 1, .. make of above / below with the unit. */
    private static void rounds(long above, long below, long unit, String... due) {
        KiloFractions x = new KiloFractions();
        x.value(above, below);
        for (int i = 0; i < due.length; i++) {
            int rule = i;
            CHECK.makes("round of " + above + "/" + below + " by rule " + i, i + 1, due[i], x,
                    () -> x.round(0, rule, unit));
        }
    }

    /** Terms, "makes the value of n / u, n whole". */
    private static void toUnits() {
        CHECK.sentence("Terms", "makes the value of n / u, n whole");
        rounds(1, 8, 4, "0/1", "1/4", "0/1", "1/4", "1/4", "0/1", "0/1");
        rounds(1, 3, 3, "1/3", "1/3", "1/3", "1/3", "1/3", "1/3", "1/3");
        rounds(-1, 3, 6, "-1/3", "-1/3", "-1/3", "-1/3", "-1/3", "-1/3", "-1/3");
        rounds(0, 1, 7, "0/1", "0/1", "0/1", "0/1", "0/1", "0/1", "0/1");
        rounds(Long.MIN_VALUE, 3, 1, "-3074457345618258603/1", "-3074457345618258602/1");
    }

    /** Terms, "of two as near the one whose n is even": n, not the upper number in lowest terms. */
    private static void evenIsOfTheUpperNumber() {
        CHECK.sentence("Terms", "5 nearest, of two as near the one whose n is even");
        rounds(3, 8, 4, "1/4", "1/2", "1/4", "1/2", "1/2", "1/2", "1/4");
        rounds(-3, 8, 4, "-1/2", "-1/4", "-1/4", "-1/2", "-1/4", "-1/2", "-1/2");
        rounds(5, 8, 4, "1/2", "3/4", "1/2", "3/4", "3/4", "1/2", "1/2");
    }

    /** Terms, "a unit u (1 .. 1,000,000,000)". */
    private static void leastAndGreatestUnit() {
        CHECK.sentence("Terms", "a unit u (1 .. 1,000,000,000)");
        rounds(1, 3, 1, "0/1", "1/1", "0/1", "1/1", "0/1", "0/1", "0/1");
        rounds(1, 3, MOST, "333333333/1000000000", "166666667/500000000");
        rounds(-1, 3, MOST, "-166666667/500000000", "-333333333/1000000000");
    }

    /** Terms, "nearest, of two as near": a hair beside the middle of two it is no longer 'as near'. */
    private static void hardlyBesideTheMiddle() {
        CHECK.sentence("Terms", "nearest, of two as near");
        KiloFractions x = new KiloFractions();
        BigInteger below = BigInteger.TEN.pow(48).subtract(BigInteger.ONE);
        BigInteger half = below.subtract(BigInteger.ONE).divide(BigInteger.TWO);
        int lower = Check.whole(x, below.toString());
        int under = x.over(Check.whole(x, half.toString()), lower);
        int over = x.over(Check.whole(x, half.add(BigInteger.ONE).toString()), lower);
        for (int rule = 4; rule <= 6; rule++) {
            int by = rule;
            int next = over + 2 * rule - 7;
            CHECK.makes("round of hardly less than 1/2 by rule " + rule, next, "0/1", x, () -> x.round(under, by, 1));
            CHECK.makes("round of hardly more by rule " + rule, next + 1, "1/1", x, () -> x.round(over, by, 1));
        }
    }

    /** Promise 8, "Index: no such value or rule": no such value. */
    private static void noSuchValue() {
        CHECK.sentence("Promise 8", "Index: no such value or rule");
        KiloFractions x = Check.withValues(3);
        for (int no : Check.NEVER) {
            CHECK.noIndex("round(" + no + ", 0, 1)", () -> x.round(no, 0, 1));
        }
        CHECK.noIndex("round(3, 0, 1)", () -> x.round(3, 0, 1));
        CHECK.makes("round(2, 0, 1)", 3, "2/1", x, () -> x.round(2, 0, 1));
        CHECK.noIndex("round(0, 0, 1) without values", () -> new KiloFractions().round(0, 0, 1));
    }

    /** Promise 8, "Index: no such value or rule": no such rule. */
    private static void noSuchRule() {
        CHECK.sentence("Promise 8", "Index: no such value or rule");
        KiloFractions x = Check.withValues(3);
        for (int no : Check.NEVER) {
            CHECK.noIndex("round(0, " + no + ", 1)", () -> x.round(0, no, 1));
        }
        CHECK.noIndex("round(0, 7, 1)", () -> x.round(0, 7, 1));
        CHECK.hasValues(3, x);
        CHECK.makes("round(2, 6, 1)", 3, "2/1", x, () -> x.round(2, 6, 1));
    }

    /** Promise 8, "Range: the unit". */
    private static void noSuchUnit() {
        CHECK.sentence("Promise 8", "Range: the unit");
        KiloFractions x = Check.withValues(3);
        long[] units = {0, -1, MOST + 1, 1L << 32, (1L << 32) + 1, -MOST, Long.MIN_VALUE, Long.MAX_VALUE};
        for (long unit : units) {
            CHECK.noRange("round(0, 0, " + unit + ")", () -> x.round(0, 0, unit));
            CHECK.noRange("round(2, 6, " + unit + ")", () -> x.round(2, 6, unit));
        }
        CHECK.hasValues(3, x);
    }

    /** Promise 8, "Meaning: there are 100." */
    private static void noRoom() {
        CHECK.sentence("Promise 8", "Meaning: there are 100.");
        KiloFractions x = Check.withValues(99);
        CHECK.makes("round(98, 6, 1) with 99 values", 99, "98/1", x, () -> x.round(98, 6, 1));
        CHECK.noMeaning("round(0, 0, 1) with 100 values", () -> x.round(0, 0, 1));
        CHECK.noMeaning("round(99, 6, 10^9) with 100 values", () -> x.round(99, 6, MOST));
        CHECK.hasValues(100, x);
    }

    /** Promise 8, "the new value's number, or -1": n has 49 digits, of which the unit cancels none or one. */
    private static void tooLong() {
        CHECK.sentence("Promise 8", "Rounds: the new value's number, or -1.");
        KiloFractions x = new KiloFractions();
        String upper = "9" + Check.zeros(46) + "1";
        int tenToThe47AndANinth = x.over(Check.whole(x, upper), x.value(9, 1));
        int minus = x.times(tenToThe47AndANinth, x.value(-1, 1));
        String made = "5" + Check.zeros(46) + "1/5";
        CHECK.answers("down to (10^48 + 1) / 10", -1, () -> x.round(tenToThe47AndANinth, 0, 10));
        CHECK.answers("nearest to (10^48 + 1) / 10", -1, () -> x.round(tenToThe47AndANinth, 4, 10));
        CHECK.answers("up to -(10^48 + 1) / 10", -1, () -> x.round(minus, 1, 10));
        CHECK.hasValues(minus + 1, x);
        CHECK.makes("up to (10^48 + 2) / 10", minus + 1, made, x, () -> x.round(tenToThe47AndANinth, 1, 10));
        CHECK.makes("down to -(10^48 + 2) / 10", minus + 2, "-" + made, x, () -> x.round(minus, 0, 10));
        CHECK.answers("to the unit 10^9", -1, () -> x.round(tenToThe47AndANinth, 2, MOST));
        CHECK.makes("to the unit 9", minus + 3, upper + "/9", x, () -> x.round(tenToThe47AndANinth, 0, 9));
    }

    /** Terms, "more than 48 decimal digits, in lowest terms": n of 57 digits, of which the unit cancels nine. */
    private static void longOnlyBeforeLowestTerms() {
        CHECK.sentence("Terms", "has more than 48 decimal digits, in lowest terms");
        KiloFractions x = new KiloFractions();
        int most = Check.whole(x, Check.nines(48));
        int least = x.over(x.value(1, 1), most);
        int next = least + 1;
        CHECK.makes("round(most, 0, 10^9)", next, Check.nines(48) + "/1", x, () -> x.round(most, 0, MOST));
        CHECK.makes("round(least, 3, 10^9)", next + 1, "1/1000000000", x, () -> x.round(least, 3, MOST));
        CHECK.makes("round(least, 2, 10^9)", next + 2, "0/1", x, () -> x.round(least, 2, MOST));
    }
}
