/** Promise 2: value. */
public final class ValueTest {
    private static final Check CHECK = new Check();

    public static void main(String[] args) {
        inLowestTerms();
        atTheEndsOfLong();
        refused();
        CHECK.end();
    }

    private static void made(KiloFractions x, int number, long above, long below, String due) {
        CHECK.answers("value(" + above + ", " + below + ")", number, () -> x.value(above, below));
        CHECK.is(due, x, number);
    }

    private static void inLowestTerms() {
        KiloFractions x = new KiloFractions();
        made(x, 0, 6, -4, "-3/2");
        made(x, 1, -6, -4, "3/2");
        made(x, 2, 0, -5, "0/1");
        made(x, 3, 0, Long.MIN_VALUE, "0/1");
        made(x, 4, 17, 1, "17/1");
        made(x, 5, 1_000_000_000, 3_000_000_000L, "1/3");
        made(x, 6, 1_000_000_007, 1_000_000_009, "1000000007/1000000009");
        made(x, 7, 6, -4, "-3/2");
        made(x, 8, 7_540_113_804_746_346_429L, 4_660_046_610_375_530_309L,
                "7540113804746346429/4660046610375530309");
        made(x, 9, 999_999_999_000_000_000L, 3_000_000_000L, "333333333/1");
    }

    private static void atTheEndsOfLong() {
        KiloFractions x = new KiloFractions();
        made(x, 0, Long.MIN_VALUE, -1, "9223372036854775808/1");
        made(x, 1, Long.MIN_VALUE, Long.MIN_VALUE, "1/1");
        made(x, 2, Long.MAX_VALUE, Long.MIN_VALUE, "-9223372036854775807/9223372036854775808");
        made(x, 3, 1, Long.MIN_VALUE, "-1/9223372036854775808");
        made(x, 4, Long.MIN_VALUE, 1L << 62, "-2/1");
        made(x, 5, Long.MAX_VALUE, Long.MAX_VALUE, "1/1");
    }

    private static void refused() {
        KiloFractions x = new KiloFractions();
        CHECK.noArithmetic("value(1, 0)", () -> x.value(1, 0));
        CHECK.noArithmetic("value(0, 0)", () -> x.value(0, 0));
        CHECK.noIndex("sign(0) behind a refusal", () -> x.sign(0));

        KiloFractions full = Check.withValues(99);
        CHECK.answers("the hundredth value", 99, () -> full.value(5, 10));
        CHECK.noMeaning("value(1, 1) of a full object", () -> full.value(1, 1));
        CHECK.noMeaning("value(1, 0) of a full object", () -> full.value(1, 0));
        CHECK.noIndex("sign(100) of a full object", () -> full.sign(100));
        CHECK.is("1/2", full, 99);
    }
}
