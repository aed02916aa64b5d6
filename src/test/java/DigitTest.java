/** Promises 17 and 18: sign, digit. */
public final class DigitTest {
    private static final Check CHECK = new Check();
    private static final String NO_SUCH = "Index: no such value or part, or it has not so many digits";

    public static void main(String[] args) {
        signs();
        signOfNoSuchValue();
        digits();
        upperWithoutSign();
        zeroHasOneDigit();
        allFortyEight();
        aboutTheTens();
        digitOfNoSuchValue();
        noSuchPart();
        notSoManyDigits();
        CHECK.end();
    }

    /** The value -1000000000/1000000007. */
    private static KiloFractions oneValue() {
        KiloFractions x = new KiloFractions();
        x.value(-1_000_000_000, 1_000_000_007);
        return x;
    }

    /** Promise 17, "Of a value -1, 0 or 1: its sign." */
    private static void signs() {
        CHECK.sentence("Promise 17", "Of a value -1, 0 or 1: its sign.");
        long[][] due = {{5, -3, -1}, {0, -3, 0}, {-5, -3, 1}, {0, 7, 0}, {5, 3, 1}, {-5, 3, -1},
            {Long.MIN_VALUE, 1, -1}, {Long.MAX_VALUE, 1, 1}, {1, Long.MIN_VALUE, -1}, {-1, Long.MIN_VALUE, 1}};
        for (long[] row : due) {
            KiloFractions x = new KiloFractions();
            x.value(row[0], row[1]);
            CHECK.answers("sign of " + row[0] + "/" + row[1], (int) row[2], () -> x.sign(0));
        }
    }

    /** Promise 17, "Index: there is none such." */
    private static void signOfNoSuchValue() {
        CHECK.sentence("Promise 17", "Index: there is none such.");
        KiloFractions x = oneValue();
        for (int no : Check.NEVER) {
            CHECK.noIndex("sign(" + no + ")", () -> x.sign(no));
        }
        CHECK.noIndex("sign(1)", () -> x.sign(1));
        CHECK.noIndex("sign(0) without values", () -> new KiloFractions().sign(0));
        KiloFractions full = Check.withValues(100);
        CHECK.answers("sign(99) with 100 values", 1, () -> full.sign(99));
        CHECK.noIndex("sign(100) with 100 values", () -> full.sign(100));
    }

    /** Promise 18, "Decimal digit i (0 the lowest)", "or lower number (part 1)". */
    private static void digits() {
        CHECK.sentence("Promise 18", "Decimal digit i (0 the lowest)");
        KiloFractions x = new KiloFractions();
        x.value(9_876_543_210L, 1_234_567_891L);
        int[] upper = {0, 1, 2, 3, 4, 5, 6, 7, 8, 9};
        int[] lower = {1, 9, 8, 7, 6, 5, 4, 3, 2, 1};
        for (int k = 0; k < 10; k++) {
            int i = k;
            CHECK.answers("digit(0, 0, " + i + ")", upper[i], () -> x.digit(0, 0, i));
            CHECK.answers("digit(0, 1, " + i + ")", lower[i], () -> x.digit(0, 1, i));
        }
    }

    /** Promise 18, "a value's upper (part 0, without sign)". */
    private static void upperWithoutSign() {
        CHECK.sentence("Promise 18", "upper (part 0, without sign)");
        KiloFractions x = new KiloFractions();
        x.value(-73, 2);
        CHECK.answers("digit(0, 0, 0) of -73/2", 3, () -> x.digit(0, 0, 0));
        CHECK.answers("digit(0, 0, 1) of -73/2", 7, () -> x.digit(0, 0, 1));
        CHECK.noIndex("digit(0, 0, 2) of -73/2", () -> x.digit(0, 0, 2));
        CHECK.answers("digit(0, 1, 0) of -73/2", 2, () -> x.digit(0, 1, 0));
    }

    /** Promise 18, "(0 has one)". */
    private static void zeroHasOneDigit() {
        CHECK.sentence("Promise 18", "(0 has one)");
        KiloFractions x = new KiloFractions();
        x.value(0, 7);
        x.less(0, 0);
        for (int a = 0; a < 2; a++) {
            int zero = a;
            CHECK.answers("digit(" + a + ", 0, 0) of 0", 0, () -> x.digit(zero, 0, 0));
            CHECK.noIndex("digit(" + a + ", 0, 1) of 0", () -> x.digit(zero, 0, 1));
            CHECK.answers("digit(" + a + ", 1, 0) of 0", 1, () -> x.digit(zero, 1, 0));
            CHECK.noIndex("digit(" + a + ", 1, 1) of 0", () -> x.digit(zero, 1, 1));
        }
    }

    /** Promise 18, "or it has not so many digits": 48 digits, the highest of which is digit 47. */
    private static void allFortyEight() {
        CHECK.sentence("Promise 18", NO_SUCH);
        String text = "123456789098765432101234567890987654321012345679";
        KiloFractions x = new KiloFractions();
        int a = Check.whole(x, "-" + text);
        CHECK.is("-" + text + "/1", x, a);
        CHECK.answers("the highest digit above", 1, () -> x.digit(a, 0, 47));
        CHECK.noIndex("the digit over it", () -> x.digit(a, 0, 48));
        int b = x.over(x.value(1, 1), a);
        CHECK.is("-1/" + text, x, b);
        CHECK.answers("the highest digit below", 1, () -> x.digit(b, 1, 47));
        CHECK.noIndex("the digit over that", () -> x.digit(b, 1, 48));
    }

    /** Promise 18, "or it has not so many digits": numbers of each length, with nines or zeros alone. */
    private static void aboutTheTens() {
        CHECK.sentence("Promise 18", NO_SUCH);
        for (int length = 1; length <= 48; length++) {
            KiloFractions x = new KiloFractions();
            int last = length - 1;
            int nines = Check.whole(x, Check.nines(length));
            int ten = Check.whole(x, "1" + Check.zeros(last));
            CHECK.answers("the highest of " + length + " nines", 9, () -> x.digit(nines, 0, last));
            CHECK.noIndex("the digit over " + length + " nines", () -> x.digit(nines, 0, last + 1));
            CHECK.answers("the highest digit of 10^" + last, 1, () -> x.digit(ten, 0, last));
            CHECK.noIndex("the digit over 10^" + last, () -> x.digit(ten, 0, last + 1));
        }
    }

    /** Promise 18, "Index: no such value". */
    private static void digitOfNoSuchValue() {
        CHECK.sentence("Promise 18", NO_SUCH);
        KiloFractions x = oneValue();
        for (int no : Check.NEVER) {
            CHECK.noIndex("digit(" + no + ", 0, 0)", () -> x.digit(no, 0, 0));
            CHECK.noIndex("digit(" + no + ", 1, 0)", () -> x.digit(no, 1, 0));
        }
        CHECK.noIndex("digit(1, 0, 0)", () -> x.digit(1, 0, 0));
        CHECK.noIndex("digit(0, 0, 0) without values", () -> new KiloFractions().digit(0, 0, 0));
        KiloFractions full = Check.withValues(100);
        CHECK.answers("digit(99, 0, 1) with 100 values", 9, () -> full.digit(99, 0, 1));
        CHECK.noIndex("digit(100, 0, 0) with 100 values", () -> full.digit(100, 0, 0));
    }

    /** Promise 18, "Index: no such .. part". */
    private static void noSuchPart() {
        CHECK.sentence("Promise 18", NO_SUCH);
        KiloFractions x = oneValue();
        for (int no : Check.NEVER) {
            CHECK.noIndex("digit(0, " + no + ", 0)", () -> x.digit(0, no, 0));
        }
        CHECK.noIndex("digit(0, 2, 0)", () -> x.digit(0, 2, 0));
        CHECK.noIndex("digit(0, 3, 0)", () -> x.digit(0, 3, 0));
    }

    /** Promise 18, "or it has not so many digits". */
    private static void notSoManyDigits() {
        CHECK.sentence("Promise 18", NO_SUCH);
        KiloFractions x = oneValue();
        for (int part = 0; part < 2; part++) {
            int of = part;
            CHECK.answers("digit(0, " + part + ", 9)", 1, () -> x.digit(0, of, 9));
            CHECK.noIndex("digit(0, " + part + ", 10)", () -> x.digit(0, of, 10));
            CHECK.noIndex("digit(0, " + part + ", 48)", () -> x.digit(0, of, 48));
            for (int no : Check.NEVER) {
                CHECK.noIndex("digit(0, " + part + ", " + no + ")", () -> x.digit(0, of, no));
            }
        }
    }
}
