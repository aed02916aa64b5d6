/** Promises 17 and 18: sign, digit. */
public final class DigitTest {
    private static final Check CHECK = new Check();

    public static void main(String[] args) {
        signs();
        digits();
        longNumbers();
        CHECK.end();
    }

    private static void signs() {
        KiloFractions x = new KiloFractions();
        x.value(5, -3);
        x.value(0, -3);
        x.value(-5, -3);
        CHECK.answers("sign(0)", -1, () -> x.sign(0));
        CHECK.answers("sign(1)", 0, () -> x.sign(1));
        CHECK.answers("sign(2)", 1, () -> x.sign(2));
        for (int wrong : new int[] {-1, 3, 100, Integer.MIN_VALUE, Integer.MAX_VALUE}) {
            CHECK.noIndex("sign(" + wrong + ")", () -> x.sign(wrong));
            CHECK.noIndex("digit(" + wrong + ", 0, 0)", () -> x.digit(wrong, 0, 0));
        }
    }

    private static void digits() {
        KiloFractions x = new KiloFractions();
        x.value(-1_000_000_000, 1_000_000_007);
        x.value(0, 7);
        int[] upper = {0, 0, 0, 0, 0, 0, 0, 0, 0, 1};
        int[] lower = {7, 0, 0, 0, 0, 0, 0, 0, 0, 1};
        for (int i = 0; i < 10; i++) {
            int k = i;
            CHECK.answers("digit(0, 0, " + i + ")", upper[i], () -> x.digit(0, 0, k));
            CHECK.answers("digit(0, 1, " + i + ")", lower[i], () -> x.digit(0, 1, k));
        }
        CHECK.answers("digit(1, 0, 0)", 0, () -> x.digit(1, 0, 0));
        CHECK.answers("digit(1, 1, 0)", 1, () -> x.digit(1, 1, 0));
        CHECK.noIndex("digit(1, 0, 1)", () -> x.digit(1, 0, 1));
        CHECK.noIndex("digit(1, 1, 1)", () -> x.digit(1, 1, 1));
        for (int part : new int[] {-1, 2, Integer.MIN_VALUE, Integer.MAX_VALUE}) {
            CHECK.noIndex("digit(0, " + part + ", 0)", () -> x.digit(0, part, 0));
        }
        for (int i : new int[] {-1, 10, 48, 200, Integer.MIN_VALUE, Integer.MAX_VALUE}) {
            CHECK.noIndex("digit(0, 0, " + i + ")", () -> x.digit(0, 0, i));
            CHECK.noIndex("digit(0, 1, " + i + ")", () -> x.digit(0, 1, i));
        }
    }

    private static void longNumbers() {
        String text = "123456789098765432101234567890987654321012345679";
        KiloFractions x = new KiloFractions();
        int a = Check.whole(x, "-" + text);
        CHECK.is("-" + text + "/1", x, a);
        CHECK.answers("the highest digit", 1, () -> x.digit(a, 0, 47));
        CHECK.noIndex("the digit above it", () -> x.digit(a, 0, 48));
        int b = x.over(x.value(1, 1), a);
        CHECK.is("-1/" + text, x, b);
        CHECK.answers("the highest digit below", 1, () -> x.digit(b, 1, 47));
        CHECK.noIndex("the digit above that", () -> x.digit(b, 1, 48));
    }
}
