/** Promises 13 and 14: weight, share. */
public final class ShareTest {
    private static final Check CHECK = new Check();
    private static final long MOST = 1_000_000_000L;

    public static void main(String[] args) {
        weights();
        shares();
        greatShares();
        allTogether();
        refused();
        CHECK.end();
    }

    private static KiloFractions withWeights(long... weights) {
        KiloFractions x = new KiloFractions();
        for (int i = 0; i < weights.length; i++) {
            long w = weights[i];
            CHECK.answers("weight(" + w + ")", i + 1, () -> x.weight(w));
        }
        return x;
    }

    private static void given(KiloFractions x, long whole, long... due) {
        for (int i = 0; i < due.length; i++) {
            int k = i;
            CHECK.answers("share(" + whole + ", " + k + ")", due[k], () -> x.share(whole, k));
        }
    }

    private static void weights() {
        KiloFractions x = new KiloFractions();
        CHECK.noRange("weight(-1)", () -> x.weight(-1));
        CHECK.noRange("weight(MOST + 1)", () -> x.weight(MOST + 1));
        CHECK.noRange("weight(2^32)", () -> x.weight(1L << 32));
        CHECK.noRange("weight(the least long)", () -> x.weight(Long.MIN_VALUE));
        for (int i = 1; i <= 20; i++) {
            long w = i % 2 == 0 ? 0 : MOST;
            CHECK.answers("weight " + i, i, () -> x.weight(w));
        }
        CHECK.noMeaning("weight(1) with 20 weights", () -> x.weight(1));
        CHECK.noRange("weight(-1) with 20 weights", () -> x.weight(-1));
        CHECK.noIndex("share(1, 20) with 20 weights", () -> x.share(1, 20));
        given(x, 11, 2, 0, 1, 0, 1, 0, 1, 0, 1, 0, 1, 0, 1, 0, 1, 0, 1, 0, 1, 0);
    }

    private static void shares() {
        KiloFractions x = withWeights(3, 0, 3, 1);
        given(x, 10, 4, 0, 4, 2);
        given(x, 0, 0, 0, 0, 0);
        given(x, 1, 1, 0, 0, 0);
        given(x, 2, 1, 0, 1, 0);
        given(x, 3, 1, 0, 1, 1);
        given(x, 7, 3, 0, 3, 1);
        given(withWeights(1, 1, 1), 2, 1, 1, 0);
        given(withWeights(1, 2, 3), 4, 1, 1, 2);
        given(withWeights(5), 17, 17);
        given(withWeights(0, 1), MOST, 0, MOST);
    }

    private static void greatShares() {
        KiloFractions x = withWeights(MOST, MOST, MOST);
        given(x, MOST, 333_333_334, 333_333_333, 333_333_333);
        given(withWeights(MOST, 1), MOST, 999_999_999, 1);
        given(withWeights(1, MOST, MOST - 1), MOST, 1, 500_000_000, 499_999_999);
    }

    private static void allTogether() {
        KiloFractions x = withWeights(7, 11, 13, 0, 999_999_937, 5, 17, 1, 2, 3);
        for (long whole = 0; whole <= 40; whole++) {
            long sum = 0;
            for (int k = 0; k < 10; k++) {
                sum += x.share(whole, k);
            }
            long all = sum;
            CHECK.answers("the sum of the shares of " + whole, whole, () -> all);
        }
    }

    private static void refused() {
        KiloFractions x = withWeights(0, 0);
        CHECK.noArithmetic("share(5, 0) of weights 0", () -> x.share(5, 0));
        CHECK.noArithmetic("share(0, 1) of weights 0", () -> x.share(0, 1));
        CHECK.noRange("share(-1, 0) of weights 0", () -> x.share(-1, 0));
        CHECK.noRange("share(MOST + 1, 0)", () -> x.share(MOST + 1, 0));
        CHECK.noRange("share(the greatest long, 0)", () -> x.share(Long.MAX_VALUE, 0));
        CHECK.noIndex("share(5, 2)", () -> x.share(5, 2));
        CHECK.noIndex("share(-1, 2)", () -> x.share(-1, 2));
        CHECK.noIndex("share(5, -1)", () -> x.share(5, -1));
        CHECK.noIndex("share(5, the least int)", () -> x.share(5, Integer.MIN_VALUE));
        x.weight(4);
        given(x, 5, 0, 0, 5);
    }
}
