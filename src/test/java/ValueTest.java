/** Promise 2: value. */
public final class ValueTest {
    private static final Check CHECK = new Check();

    public static void main(String[] args) {
        itsNumber();
        inLowestTerms();
        lowerAboveZero();
        atTheEndsOfLong();
        noRoom();
        belowIsZero();
        CHECK.end();
    }

    private static void made(KiloFractions x, int number, long above, long below, String due) {
        CHECK.makes("value(" + above + ", " + below + ")", number, due, x, () -> x.value(above, below));
    }

    /** Promise 2, "The value above / below: its number." */
    private static void itsNumber() {
        CHECK.sentence("Promise 2", "The value above / below: its number.");
        KiloFractions x = new KiloFractions();
        made(x, 0, 17, 1, "17/1");
        made(x, 1, 1_000_000_007, 1_000_000_009, "1000000007/1000000009");
        made(x, 2, 17, 1, "17/1");
    }

    /** Terms, "are fractions in lowest terms", of value. */
    private static void inLowestTerms() {
        CHECK.sentence("Terms", "are fractions in lowest terms");
        KiloFractions x = new KiloFractions();
        made(x, 0, 6, 4, "3/2");
        made(x, 1, 1_000_000_000, 3_000_000_000L, "1/3");
        made(x, 2, 999_999_999_000_000_000L, 3_000_000_000L, "333333333/1");
        made(x, 3, 7_540_113_804_746_346_429L, 4_660_046_610_375_530_309L,
                "7540113804746346429/4660046610375530309");
        made(x, 4, 0, 5, "0/1");
        made(x, 5, 12, 12, "1/1");
    }

    /** Terms, "the lower number above 0", of value. */
    private static void lowerAboveZero() {
        CHECK.sentence("Terms", "the lower number above 0");
        KiloFractions x = new KiloFractions();
        made(x, 0, 6, -4, "-3/2");
        made(x, 1, -6, -4, "3/2");
        made(x, 2, 0, -5, "0/1");
        made(x, 3, 1, -1, "-1/1");
        made(x, 4, -1, 1, "-1/1");
    }

    /** Promise 2, "The value above / below", for the least and the greatest long. */
    private static void atTheEndsOfLong() {
        CHECK.sentence("Promise 2", "The value above / below: its number.");
        KiloFractions x = new KiloFractions();
        made(x, 0, Long.MIN_VALUE, -1, "9223372036854775808/1");
        made(x, 1, Long.MIN_VALUE, Long.MIN_VALUE, "1/1");
        made(x, 2, Long.MAX_VALUE, Long.MIN_VALUE, "-9223372036854775807/9223372036854775808");
        made(x, 3, 1, Long.MIN_VALUE, "-1/9223372036854775808");
        made(x, 4, Long.MIN_VALUE, 1L << 62, "-2/1");
        made(x, 5, Long.MAX_VALUE, Long.MAX_VALUE, "1/1");
        made(x, 6, 0, Long.MIN_VALUE, "0/1");
        made(x, 7, Long.MIN_VALUE, Long.MAX_VALUE, "-9223372036854775808/9223372036854775807");
        made(x, 8, Long.MIN_VALUE, 1, "-9223372036854775808/1");
    }

    /** Promise 2, "Meaning: there are 100". */
    private static void noRoom() {
        CHECK.sentence("Promise 2", "Meaning: there are 100");
        KiloFractions x = Check.withValues(99);
        made(x, 99, 5, 10, "1/2");
        CHECK.noMeaning("value(1, 1)", () -> x.value(1, 1));
        CHECK.noMeaning("value(0, 1)", () -> x.value(0, 1));
        CHECK.hasValues(100, x);
        CHECK.is("1/2", x, 99);
    }

    /** Promise 2, "ArithmeticException: below is 0." */
    private static void belowIsZero() {
        CHECK.sentence("Promise 2", "ArithmeticException: below is 0.");
        KiloFractions x = new KiloFractions();
        for (long above : new long[] {1, 0, -1, Long.MAX_VALUE, Long.MIN_VALUE}) {
            CHECK.noArithmetic("value(" + above + ", 0)", () -> x.value(above, 0));
        }
        CHECK.hasValues(0, x);
        made(x, 0, 0, 1, "0/1");
    }
}
