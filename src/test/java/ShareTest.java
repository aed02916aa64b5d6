/** Promises 13 and 14: weight, share, with the shares of the Terms. */
public final class ShareTest {
    private static final Check CHECK = new Check();
    private static final long MOST = 1_000_000_000L;
    private static final long[] OUT_OF_RANGE = {-1, MOST + 1, 1L << 32, (1L << 32) + 5, -MOST, Long.MIN_VALUE,
        Long.MAX_VALUE};

    public static void main(String[] args) {
        howMany();
        leastAndGreatestWeight();
        weightOutOfRange();
        numbersOfWeights();
        twentyWeights();
        roundedDown();
        greatestRemainders();
        sameRemainders();
        allTogether();
        leastAndGreatestWhole();
        noSuchWeight();
        wholeOutOfRange();
        allWeightsAreZero();
        CHECK.end();
    }

    private static KiloFractions withWeights(long... weights) {
        KiloFractions x = new KiloFractions();
        for (int i = 0; i < weights.length; i++) {
            long w = weights[i];
            CHECK.answers("weight(" + w + ")", i + 1, () -> x.weight(w));
        }
        return x;
    }

    private static void given(KiloFractions x, long whole, long... due) {
        for (int i = 0; i < due.length; i++) {
            int k = i;
            CHECK.answers("share(" + whole + ", " + k + ")", due[k], () -> x.share(whole, k));
        }
    }

    /** Promise 13, "One more weight: how many." */
    private static void howMany() {
        CHECK.sentence("Promise 13", "One more weight: how many.");
        KiloFractions x = withWeights(7, 7, 0);
        CHECK.noIndex("share(1, 3)", () -> x.share(1, 3));
        given(x, 14, 7, 7, 0);
    }

    /** Terms, "WEIGHTS 0, 1, .. (at most 20) are 0 .. 1,000,000,000." */
    private static void leastAndGreatestWeight() {
        CHECK.sentence("Terms", "WEIGHTS 0, 1, .. (at most 20) are 0 .. 1,000,000,000.");
        given(withWeights(0, MOST), 3, 0, 3);
        given(withWeights(MOST, 0, 1), MOST, 999_999_999, 0, 1);
    }

    /** Promise 13, "Range: it is not so". */
    private static void weightOutOfRange() {
        CHECK.sentence("Promise 13", "Range: it is not so");
        KiloFractions x = new KiloFractions();
        for (long w : OUT_OF_RANGE) {
            CHECK.noRange("weight(" + w + ")", () -> x.weight(w));
        }
        CHECK.noIndex("share(1, 0) behind these", () -> x.share(1, 0));
        CHECK.answers("weight(5) behind these", 1, () -> x.weight(5));
    }

    /** The weights 1, 2, .. 20. */
    private static KiloFractions withTwentyWeights() {
        return withWeights(1, 2, 3, 4, 5, 6, 7, 8, 9, 10, 11, 12, 13, 14, 15, 16, 17, 18, 19, 20);
    }

    /** Terms, "WEIGHTS 0, 1, .. (at most 20)". */
    private static void numbersOfWeights() {
        CHECK.sentence("Terms", "WEIGHTS 0, 1, .. (at most 20)");
        KiloFractions x = withTwentyWeights();
        given(x, 210, 1, 2, 3, 4, 5, 6, 7, 8, 9, 10, 11, 12, 13, 14, 15, 16, 17, 18, 19, 20);
        CHECK.noIndex("share(210, 20)", () -> x.share(210, 20));
    }

    /** Promise 13, "Meaning: there are 20." */
    private static void twentyWeights() {
        CHECK.sentence("Promise 13", "Meaning: there are 20.");
        KiloFractions x = withTwentyWeights();
        CHECK.noMeaning("weight(1) with 20 weights", () -> x.weight(1));
        CHECK.noMeaning("weight(0) with 20 weights", () -> x.weight(0));
        CHECK.noMeaning("weight(MOST) with 20 weights", () -> x.weight(MOST));
        given(x, 210, 1, 2, 3);
    }

    /** Terms, "weight k gets the whole times it over the sum of all weights, rounded down". */
    private static void roundedDown() {
        CHECK.sentence("Terms", "weight k gets the whole times it over the sum of all weights, rounded down");
        given(withWeights(3, 0, 3, 1), 7, 3, 0, 3, 1);
        given(withWeights(5), 17, 17);
        given(withWeights(1, 2, 3), 6, 1, 2, 3);
        given(withWeights(99, 1), 1, 1, 0);
        given(withWeights(51, 49, 1), 2, 1, 1, 0);
    }

    /** Terms, "what is left goes by ones to the greatest remainders of these quotients". */
    private static void greatestRemainders() {
        CHECK.sentence("Terms", "what is left goes by ones to the greatest remainders of these quotients");
        KiloFractions x = withWeights(3, 0, 3, 1);
        given(x, 10, 4, 0, 4, 2);
        given(x, 2, 1, 0, 1, 0);
        given(x, 3, 1, 0, 1, 1);
        given(withWeights(1, 2, 3), 4, 1, 1, 2);
        given(withWeights(1, MOST, MOST - 1), MOST, 1, 500_000_000, 499_999_999);
        given(withWeights(MOST, 1), MOST, 999_999_999, 1);
    }

    /** Terms, "of the same to the lowest k". */
    private static void sameRemainders() {
        CHECK.sentence("Terms", "of the same to the lowest k");
        given(withWeights(1, 1, 1), 2, 1, 1, 0);
        given(withWeights(1, 1, 1), 1, 1, 0, 0);
        given(withWeights(0, 1, 1, 1), 4, 0, 2, 1, 1);
        given(withWeights(3, 0, 3, 1), 1, 1, 0, 0, 0);
        given(withWeights(MOST, MOST, MOST), MOST, 333_333_334, 333_333_333, 333_333_333);
        KiloFractions x = new KiloFractions();
        for (int i = 0; i < 20; i++) {
            x.weight(MOST);
        }
        given(x, MOST - 1, 50_000_000, 50_000_000, 50_000_000, 50_000_000, 50_000_000, 50_000_000, 50_000_000,
                50_000_000, 50_000_000, 50_000_000, 50_000_000, 50_000_000, 50_000_000, 50_000_000, 50_000_000,
                50_000_000, 50_000_000, 50_000_000, 50_000_000, 49_999_999);
    }

    /** Terms, "what is left goes by ones": all shares together are the whole. */
    private static void allTogether() {
        CHECK.sentence("Terms", "what is left goes by ones");
        KiloFractions x = withWeights(7, 11, 13, 0, 999_999_937, 5, 17, 1, 2, 3);
        for (long whole = 0; whole <= 40; whole++) {
            long sum = 0;
            for (int k = 0; k < 10; k++) {
                sum += x.share(whole, k);
            }
            long all = sum;
            CHECK.answers("the sum of the shares of " + whole, whole, () -> all);
        }
    }

    /** Terms, "SHARES of a whole (0 .. 1,000,000,000)". */
    private static void leastAndGreatestWhole() {
        CHECK.sentence("Terms", "SHARES of a whole (0 .. 1,000,000,000)");
        given(withWeights(3, 0, 1), 0, 0, 0, 0);
        given(withWeights(0, 1), MOST, 0, MOST);
        given(withWeights(MOST), MOST, MOST);
        given(withWeights(3, 0, 1), MOST, 750_000_000, 0, 250_000_000);
    }

    /** Promise 14, "Index: no such weight". */
    private static void noSuchWeight() {
        CHECK.sentence("Promise 14", "Index: no such weight");
        KiloFractions x = withWeights(1, 2);
        for (int no : Check.NEVER) {
            CHECK.noIndex("share(5, " + no + ")", () -> x.share(5, no));
        }
        CHECK.noIndex("share(5, 2)", () -> x.share(5, 2));
        CHECK.answers("share(5, 1)", 3L, () -> x.share(5, 1));
        CHECK.noIndex("share(0, 0) without weights", () -> new KiloFractions().share(0, 0));
    }

    /** Promise 14, "Range: the whole". */
    private static void wholeOutOfRange() {
        CHECK.sentence("Promise 14", "Range: the whole");
        KiloFractions x = withWeights(1, 2);
        for (long whole : OUT_OF_RANGE) {
            CHECK.noRange("share(" + whole + ", 0)", () -> x.share(whole, 0));
            CHECK.noRange("share(" + whole + ", 1)", () -> x.share(whole, 1));
        }
    }

    /** Promise 14, "ArithmeticException: all weights are 0." */
    private static void allWeightsAreZero() {
        CHECK.sentence("Promise 14", "ArithmeticException: all weights are 0.");
        KiloFractions x = withWeights(0, 0);
        CHECK.noArithmetic("share(5, 0)", () -> x.share(5, 0));
        CHECK.noArithmetic("share(5, 1)", () -> x.share(5, 1));
        CHECK.noArithmetic("share(0, 1)", () -> x.share(0, 1));
        CHECK.noArithmetic("share(MOST, 0)", () -> x.share(MOST, 0));
        x.weight(1);
        given(x, 5, 0, 0, 5);
    }
}
