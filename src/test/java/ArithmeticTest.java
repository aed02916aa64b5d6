/** Promises 3 to 7: add, less, times, over, order. */
public final class ArithmeticTest {
    private static final Check CHECK = new Check();

    public static void main(String[] args) {
        sums();
        differences();
        products();
        quotients();
        orders();
        shortOnlyInLowestTerms();
        tooLong();
        wrongNumbers();
        full();
        CHECK.end();
    }

    private static KiloFractions someValues() {
        KiloFractions x = new KiloFractions();
        x.value(-3, 2);
        x.value(7, 3);
        x.value(0, 1);
        x.value(1, 6);
        return x;
    }

    private static void sums() {
        KiloFractions x = someValues();
        CHECK.answers("add(0, 1)", 4, () -> x.add(0, 1));
        CHECK.is("5/6", x, 4);
        CHECK.answers("add(0, 0)", 5, () -> x.add(0, 0));
        CHECK.is("-3/1", x, 5);
        CHECK.answers("add(2, 0)", 6, () -> x.add(2, 0));
        CHECK.is("-3/2", x, 6);
        CHECK.answers("add(1, 2)", 7, () -> x.add(1, 2));
        CHECK.is("7/3", x, 7);
        CHECK.answers("add(4, 3)", 8, () -> x.add(4, 3));
        CHECK.is("1/1", x, 8);
        CHECK.answers("add(2, 2)", 9, () -> x.add(2, 2));
        CHECK.is("0/1", x, 9);
    }

    private static void differences() {
        KiloFractions x = someValues();
        CHECK.answers("less(0, 1)", 4, () -> x.less(0, 1));
        CHECK.is("-23/6", x, 4);
        CHECK.answers("less(1, 0)", 5, () -> x.less(1, 0));
        CHECK.is("23/6", x, 5);
        CHECK.answers("less(0, 0)", 6, () -> x.less(0, 0));
        CHECK.is("0/1", x, 6);
        CHECK.answers("less(2, 1)", 7, () -> x.less(2, 1));
        CHECK.is("-7/3", x, 7);
        CHECK.answers("less(3, 1)", 8, () -> x.less(3, 1));
        CHECK.is("-13/6", x, 8);
    }

    private static void products() {
        KiloFractions x = someValues();
        CHECK.answers("times(0, 1)", 4, () -> x.times(0, 1));
        CHECK.is("-7/2", x, 4);
        CHECK.answers("times(0, 0)", 5, () -> x.times(0, 0));
        CHECK.is("9/4", x, 5);
        CHECK.answers("times(0, 2)", 6, () -> x.times(0, 2));
        CHECK.is("0/1", x, 6);
    }

    private static void quotients() {
        KiloFractions x = someValues();
        CHECK.answers("over(0, 1)", 4, () -> x.over(0, 1));
        CHECK.is("-9/14", x, 4);
        CHECK.answers("over(1, 0)", 5, () -> x.over(1, 0));
        CHECK.is("-14/9", x, 5);
        CHECK.answers("over(0, 0)", 6, () -> x.over(0, 0));
        CHECK.is("1/1", x, 6);
        CHECK.answers("over(2, 0)", 7, () -> x.over(2, 0));
        CHECK.is("0/1", x, 7);
        CHECK.noArithmetic("over(0, 2)", () -> x.over(0, 2));
        CHECK.noArithmetic("over(2, 2)", () -> x.over(2, 2));
        CHECK.noIndex("over(4, 8) behind a refusal", () -> x.over(4, 8));
    }

    private static void orders() {
        KiloFractions x = someValues();
        x.value(14, 6);
        x.value(-5, 3);
        int[][] due = {{0, 1, -1}, {1, 0, 1}, {1, 4, 0}, {0, 2, -1}, {2, 0, 1}, {2, 2, 0}, {0, 5, 1}, {5, 0, -1},
            {3, 1, -1}, {2, 3, -1}, {3, 2, 1}};
        for (int[] row : due) {
            CHECK.answers("order(" + row[0] + ", " + row[1] + ")", row[2], () -> x.order(row[0], row[1]));
        }
        KiloFractions y = new KiloFractions();
        int big = Check.whole(y, Check.nines(48));
        int next = y.less(big, y.value(1, 1));
        int nearOne = y.over(next, big);
        int nearer = y.over(y.less(next, y.value(1, 1)), next);
        CHECK.answers("order of (n - 1) / n and (n - 2) / (n - 1)", 1, () -> y.order(nearOne, nearer));
        CHECK.answers("order of (n - 2) / (n - 1) and (n - 1) / n", -1, () -> y.order(nearer, nearOne));
    }

    private static void shortOnlyInLowestTerms() {
        KiloFractions x = new KiloFractions();
        int big = Check.whole(x, Check.nines(48));
        int next = x.less(big, x.value(1, 1));
        int up = x.over(big, next);
        CHECK.is(Check.nines(48) + "/" + Check.nines(47) + "8", x, up);
        int down = x.over(next, big);
        CHECK.is("1/1", x, x.times(up, down));
        CHECK.is("0/1", x, x.less(up, up));
        CHECK.is("1/1", x, x.over(up, up));
        int part = x.less(up, x.value(1, 1));
        CHECK.is("1/" + Check.nines(47) + "8", x, part);
    }

    private static void tooLong() {
        KiloFractions x = new KiloFractions();
        int one = x.value(1, 1);
        int big = Check.whole(x, Check.nines(48));
        int under = x.over(one, big);
        int minus = x.value(-1, 1);
        int low = x.times(big, minus);
        CHECK.is(Check.nines(48) + "/1", x, big);
        CHECK.is("1/" + Check.nines(48), x, under);
        int next = low + 1;
        CHECK.answers("10^48 as a sum", -1, () -> x.add(big, one));
        CHECK.answers("-10^48 as a difference", -1, () -> x.less(low, one));
        CHECK.answers("a product of 96 digits", -1, () -> x.times(big, big));
        CHECK.answers("a lower number of 96 digits", -1, () -> x.times(under, under));
        CHECK.answers("a quotient of 96 digits", -1, () -> x.over(big, under));
        CHECK.answers("a quotient with 96 digits below", -1, () -> x.over(under, big));
        CHECK.answers("a sum of 96 digits", -1, () -> x.add(big, under));
        CHECK.noIndex("what -1 has not made", () -> x.sign(next));
        CHECK.answers("the value behind -1", next, () -> x.less(big, one));
    }

    private static void wrongNumbers() {
        KiloFractions x = someValues();
        for (int wrong : new int[] {-1, 4, 100, Integer.MIN_VALUE, Integer.MAX_VALUE}) {
            CHECK.noIndex("add(" + wrong + ", 0)", () -> x.add(wrong, 0));
            CHECK.noIndex("add(0, " + wrong + ")", () -> x.add(0, wrong));
            CHECK.noIndex("less(" + wrong + ", 0)", () -> x.less(wrong, 0));
            CHECK.noIndex("less(0, " + wrong + ")", () -> x.less(0, wrong));
            CHECK.noIndex("times(" + wrong + ", 0)", () -> x.times(wrong, 0));
            CHECK.noIndex("times(0, " + wrong + ")", () -> x.times(0, wrong));
            CHECK.noIndex("over(" + wrong + ", 2)", () -> x.over(wrong, 2));
            CHECK.noIndex("over(0, " + wrong + ")", () -> x.over(0, wrong));
            CHECK.noIndex("order(" + wrong + ", 0)", () -> x.order(wrong, 0));
            CHECK.noIndex("order(0, " + wrong + ")", () -> x.order(0, wrong));
        }
        CHECK.answers("the value behind the refusals", 4, () -> x.add(0, 0));
    }

    private static void full() {
        KiloFractions x = Check.withValues(99);
        CHECK.answers("the hundredth value", 99, () -> x.add(1, 2));
        CHECK.noMeaning("add(1, 1) of a full object", () -> x.add(1, 1));
        CHECK.noMeaning("less(1, 1) of a full object", () -> x.less(1, 1));
        CHECK.noMeaning("times(1, 1) of a full object", () -> x.times(1, 1));
        CHECK.noMeaning("over(1, 1) of a full object", () -> x.over(1, 1));
        CHECK.noMeaning("over(1, 0) of a full object", () -> x.over(1, 0));
        CHECK.noIndex("add(100, 1) of a full object", () -> x.add(100, 1));
        CHECK.noIndex("less(1, 100) of a full object", () -> x.less(1, 100));
        CHECK.noIndex("times(-1, 1) of a full object", () -> x.times(-1, 1));
        CHECK.noIndex("over(0, 100) of a full object", () -> x.over(0, 100));
        CHECK.answers("order(99, 98) of a full object", -1, () -> x.order(99, 98));
    }
}
