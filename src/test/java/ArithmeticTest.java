/** Promises 3 to 7: add, less, times, over, order. */
public final class ArithmeticTest {
    /** One of the four calls that make a value of two. */
    private interface Pair {
        int make(KiloFractions x, int a, int b);
    }

    private static final Check CHECK = new Check();
    private static final String NO_SUCH = "Index: no such values";
    private static final String NO_ROOM = "Meaning: there are 100.";
    private static final String TOO_LONG = "its number, or -1";
    private static final String LIKEWISE = "Likewise .. ";

    private static final String N = Check.nines(48);
    private static final String LESS_THAN_N = Check.nines(47) + "8";

    public static void main(String[] args) {
        sums();
        sumOfOne();
        tooLongSums();
        differences();
        tooLongDifferences();
        products();
        tooLongProducts();
        quotients();
        tooLongQuotients();
        secondIsZero();
        noSuchValues();
        noRoom();
        orders();
        ordersOfLongOnes();
        ordersOfNoSuchValues();
        CHECK.end();
    }

    /** The values -3/2, 7/3, 0/1 and 1/6. */
    private static KiloFractions someValues() {
        KiloFractions x = new KiloFractions();
        x.value(-3, 2);
        x.value(7, 3);
        x.value(0, 1);
        x.value(1, 6);
        return x;
    }

    /** Promise 3, "The sum of two values". */
    private static void sums() {
        CHECK.sentence("Promise 3", "The sum of two values (of one, too): its number");
        KiloFractions x = someValues();
        CHECK.makes("add(0, 1)", 4, "5/6", x, () -> x.add(0, 1));
        CHECK.makes("add(1, 0)", 5, "5/6", x, () -> x.add(1, 0));
        CHECK.makes("add(2, 0)", 6, "-3/2", x, () -> x.add(2, 0));
        CHECK.makes("add(1, 2)", 7, "7/3", x, () -> x.add(1, 2));
        CHECK.makes("add(4, 3)", 8, "1/1", x, () -> x.add(4, 3));
    }

    /** Promise 3, "of one, too". */
    private static void sumOfOne() {
        CHECK.sentence("Promise 3", "(of one, too)");
        KiloFractions x = someValues();
        CHECK.makes("add(0, 0)", 4, "-3/1", x, () -> x.add(0, 0));
        CHECK.makes("add(2, 2)", 5, "0/1", x, () -> x.add(2, 2));
        CHECK.makes("add(3, 3)", 6, "1/3", x, () -> x.add(3, 3));
    }

    /** Promise 3, "its number, or -1". */
    private static void tooLongSums() {
        CHECK.sentence("Promise 3", TOO_LONG);
        KiloFractions x = new KiloFractions();
        int one = x.value(1, 1);
        int minus = x.value(-1, 1);
        int most = x.add(Check.whole(x, LESS_THAN_N), one);
        CHECK.is(N + "/1", x, most);
        CHECK.answers("10^48 as a sum", -1, () -> x.add(most, one));
        CHECK.answers("10^48 as a sum, turned", -1, () -> x.add(one, most));
        int least = x.add(Check.whole(x, "-" + LESS_THAN_N), minus);
        CHECK.is("-" + N + "/1", x, least);
        CHECK.answers("-10^48 as a sum", -1, () -> x.add(least, minus));
        CHECK.makes("the sum of both", least + 1, "0/1", x, () -> x.add(least, most));

        KiloFractions y = new KiloFractions();
        int below = Check.under(y, Check.aboutTen24(-1));
        int at = Check.under(y, Check.aboutTen24(0));
        int above = Check.under(y, Check.aboutTen24(1));
        CHECK.makes("48 digits below", above + 1, "1" + Check.nines(24) + "/" + Check.productAboutTen24(-1, 0), y,
                () -> y.add(below, at));
        CHECK.answers("49 digits below", -1, () -> y.add(at, above));
        CHECK.hasValues(above + 2, y);
    }

    /** Promise 4, "The first less the second." */
    private static void differences() {
        CHECK.sentence("Promise 4", "The first less the second.");
        KiloFractions x = someValues();
        CHECK.makes("less(0, 1)", 4, "-23/6", x, () -> x.less(0, 1));
        CHECK.makes("less(1, 0)", 5, "23/6", x, () -> x.less(1, 0));
        CHECK.makes("less(0, 0)", 6, "0/1", x, () -> x.less(0, 0));
        CHECK.makes("less(2, 1)", 7, "-7/3", x, () -> x.less(2, 1));
        CHECK.makes("less(1, 2)", 8, "7/3", x, () -> x.less(1, 2));
        CHECK.makes("less(3, 1)", 9, "-13/6", x, () -> x.less(3, 1));
    }

    /** Promise 4, "Likewise": its number, or -1. */
    private static void tooLongDifferences() {
        CHECK.sentence("Promise 4", LIKEWISE + TOO_LONG);
        KiloFractions x = new KiloFractions();
        int one = x.value(1, 1);
        int minus = x.value(-1, 1);
        int most = x.less(Check.whole(x, LESS_THAN_N), minus);
        CHECK.is(N + "/1", x, most);
        CHECK.answers("10^48 as a difference", -1, () -> x.less(most, minus));
        int least = x.less(Check.whole(x, "-" + LESS_THAN_N), one);
        CHECK.is("-" + N + "/1", x, least);
        CHECK.answers("-10^48 as a difference", -1, () -> x.less(least, one));
        CHECK.answers("-10^48 as a difference, turned", -1, () -> x.less(minus, most));
        CHECK.makes("one less 48 nines", least + 1, "-" + LESS_THAN_N + "/1", x, () -> x.less(one, most));

        KiloFractions y = new KiloFractions();
        int below = Check.under(y, Check.aboutTen24(-1));
        int at = Check.under(y, Check.aboutTen24(0));
        int above = Check.under(y, Check.aboutTen24(1));
        CHECK.makes("48 digits below", above + 1, "1/" + Check.productAboutTen24(-1, 0), y, () -> y.less(below, at));
        CHECK.answers("49 digits below", -1, () -> y.less(at, above));
        CHECK.hasValues(above + 2, y);
    }

    /** Promise 5, "The product." */
    private static void products() {
        CHECK.sentence("Promise 5", "The product.");
        KiloFractions x = someValues();
        CHECK.makes("times(0, 1)", 4, "-7/2", x, () -> x.times(0, 1));
        CHECK.makes("times(0, 0)", 5, "9/4", x, () -> x.times(0, 0));
        CHECK.makes("times(0, 2)", 6, "0/1", x, () -> x.times(0, 2));
        CHECK.makes("times(2, 2)", 7, "0/1", x, () -> x.times(2, 2));
    }

    /** Promise 5, "Likewise": its number, or -1. */
    private static void tooLongProducts() {
        CHECK.sentence("Promise 5", LIKEWISE + TOO_LONG);
        KiloFractions x = new KiloFractions();
        int below = Check.whole(x, Check.aboutTen24(-1));
        int at = Check.whole(x, Check.aboutTen24(0));
        int above = Check.whole(x, Check.aboutTen24(1));
        int minus = x.value(-1, 1);
        int low = x.times(below, minus);
        int most = low + 1;
        CHECK.makes("48 digits above", most, N + "/1", x, () -> x.times(below, above));
        CHECK.makes("48 digits and a minus", most + 1, "-" + N + "/1", x, () -> x.times(low, above));
        CHECK.answers("49 digits above", -1, () -> x.times(at, at));
        CHECK.answers("96 digits above", -1, () -> x.times(most, most));
        CHECK.hasValues(most + 2, x);

        KiloFractions y = new KiloFractions();
        int underBelow = Check.under(y, Check.aboutTen24(-1));
        int underAt = Check.under(y, Check.aboutTen24(0));
        int underAbove = Check.under(y, Check.aboutTen24(1));
        int least = underAbove + 1;
        CHECK.makes("48 digits below", least, "1/" + N, y, () -> y.times(underBelow, underAbove));
        CHECK.answers("49 digits below", -1, () -> y.times(underAt, underAt));
        CHECK.answers("96 digits below", -1, () -> y.times(least, least));
        CHECK.hasValues(least + 1, y);
    }

    /** Promise 6, "The first over the second." */
    private static void quotients() {
        CHECK.sentence("Promise 6", "The first over the second.");
        KiloFractions x = someValues();
        CHECK.makes("over(0, 1)", 4, "-9/14", x, () -> x.over(0, 1));
        CHECK.makes("over(1, 0)", 5, "-14/9", x, () -> x.over(1, 0));
        CHECK.makes("over(0, 0)", 6, "1/1", x, () -> x.over(0, 0));
        CHECK.makes("over(2, 0)", 7, "0/1", x, () -> x.over(2, 0));
        CHECK.makes("over(0, 4)", 8, "7/3", x, () -> x.over(0, 4));
    }

    /** Promise 6, "Likewise": its number, or -1. */
    private static void tooLongQuotients() {
        CHECK.sentence("Promise 6", LIKEWISE + TOO_LONG);
        KiloFractions x = new KiloFractions();
        int below = Check.whole(x, Check.aboutTen24(-1));
        int at = Check.whole(x, Check.aboutTen24(0));
        int above = Check.whole(x, Check.aboutTen24(1));
        int one = x.value(1, 1);
        int underBelow = x.over(one, below);
        int underAt = x.over(one, at);
        int underAbove = x.over(one, above);
        int most = underAbove + 1;
        CHECK.makes("48 digits above", most, N + "/1", x, () -> x.over(below, underAbove));
        CHECK.makes("48 digits below", most + 1, "1/" + N, x, () -> x.over(underBelow, above));
        CHECK.answers("49 digits above", -1, () -> x.over(at, underAt));
        CHECK.answers("49 digits below", -1, () -> x.over(underAt, at));
        CHECK.answers("96 digits above", -1, () -> x.over(most, most + 1));
        CHECK.answers("96 digits below", -1, () -> x.over(most + 1, most));
        CHECK.hasValues(most + 2, x);
    }

    /** Promise 6, "ArithmeticException: the second one is 0." */
    private static void secondIsZero() {
        CHECK.sentence("Promise 6", "ArithmeticException: the second one is 0.");
        KiloFractions x = someValues();
        int zero = x.less(1, 1);
        CHECK.noArithmetic("over(0, 2)", () -> x.over(0, 2));
        CHECK.noArithmetic("over(2, 2), both 0", () -> x.over(2, 2));
        CHECK.noArithmetic("over(1, zero), a difference", () -> x.over(1, zero));
        CHECK.hasValues(5, x);
        CHECK.makes("over(2, 1), the first 0", 5, "0/1", x, () -> x.over(2, 1));
    }

    /** Promise 3, "Index: no such values", and Promises 4, 5 and 6, "Likewise". */
    private static void noSuchValues() {
        noSuchValues("Promise 3", NO_SUCH, "add", (x, a, b) -> x.add(a, b));
        noSuchValues("Promise 4", LIKEWISE + NO_SUCH, "less", (x, a, b) -> x.less(a, b));
        noSuchValues("Promise 5", LIKEWISE + NO_SUCH, "times", (x, a, b) -> x.times(a, b));
        noSuchValues("Promise 6", LIKEWISE + NO_SUCH, "over", (x, a, b) -> x.over(a, b));
    }

    private static void noSuchValues(String where, String words, String name, Pair pair) {
        CHECK.sentence(where, words);
        KiloFractions x = someValues();
        for (int no : Check.NEVER) {
            noSuchPair(name, x, pair, no);
        }
        noSuchPair(name, x, pair, 4);
        CHECK.answers(name + " of the last value there is", 4, () -> pair.make(x, 3, 3));
        CHECK.answers(name + " of the first value there is", 5, () -> pair.make(x, 0, 0));

        KiloFractions empty = new KiloFractions();
        CHECK.noIndex(name + "(0, 0) without values", () -> pair.make(empty, 0, 0));
    }

    private static void noSuchPair(String name, KiloFractions x, Pair pair, int no) {
        CHECK.noIndex(name + "(" + no + ", 1)", () -> pair.make(x, no, 1));
        CHECK.noIndex(name + "(1, " + no + ")", () -> pair.make(x, 1, no));
        CHECK.noIndex(name + "(" + no + ", " + no + ")", () -> pair.make(x, no, no));
    }

    /** Promise 3, "Meaning: there are 100.", and Promises 4, 5 and 6, "Likewise". */
    private static void noRoom() {
        noRoom("Promise 3", NO_ROOM, "add", (x, a, b) -> x.add(a, b));
        noRoom("Promise 4", LIKEWISE + NO_ROOM, "less", (x, a, b) -> x.less(a, b));
        noRoom("Promise 5", LIKEWISE + NO_ROOM, "times", (x, a, b) -> x.times(a, b));
        noRoom("Promise 6", LIKEWISE + NO_ROOM, "over", (x, a, b) -> x.over(a, b));
    }

    private static void noRoom(String where, String words, String name, Pair pair) {
        CHECK.sentence(where, words);
        KiloFractions x = Check.withValues(99);
        CHECK.answers(name + "(1, 1) with 99 values", 99, () -> pair.make(x, 1, 1));
        CHECK.noMeaning(name + "(1, 1) with 100 values", () -> pair.make(x, 1, 1));
        CHECK.noMeaning(name + "(99, 2) with 100 values", () -> pair.make(x, 99, 2));
        CHECK.hasValues(100, x);
        CHECK.is("98/1", x, 98);
    }

    /** Promise 7, "-1, 0, 1: the first is below, the same as, above the second." */
    private static void orders() {
        CHECK.sentence("Promise 7", "-1, 0, 1: the first is below, the same as, above the second.");
        KiloFractions x = someValues();
        x.value(14, 6);
        x.value(-5, 3);
        int[][] due = {{0, 1, -1}, {1, 0, 1}, {1, 4, 0}, {1, 1, 0}, {0, 2, -1}, {2, 0, 1}, {2, 2, 0}, {0, 5, 1},
            {5, 0, -1}, {3, 1, -1}, {2, 3, -1}, {3, 2, 1}, {0, 0, 0}};
        for (int[] row : due) {
            CHECK.answers("order(" + row[0] + ", " + row[1] + ")", row[2], () -> x.order(row[0], row[1]));
        }
        CHECK.hasValues(6, x);

        KiloFractions full = Check.withValues(100);
        CHECK.answers("order(99, 98) with 100 values", 1, () -> full.order(99, 98));
        CHECK.answers("order(0, 99) with 100 values", -1, () -> full.order(0, 99));
    }

    /** Promise 7, the same sentence, of values whose difference would be too long. */
    private static void ordersOfLongOnes() {
        CHECK.sentence("Promise 7", "-1, 0, 1: the first is below, the same as, above the second.");
        KiloFractions x = new KiloFractions();
        int one = x.value(1, 1);
        int most = Check.whole(x, N);
        int next = x.less(most, one);
        int nearOne = x.over(next, most);
        int lessNear = x.over(x.less(next, one), next);
        int least = x.less(x.less(one, one), most);
        CHECK.answers("order of (n - 1) / n and (n - 2) / (n - 1)", 1, () -> x.order(nearOne, lessNear));
        CHECK.answers("order of (n - 2) / (n - 1) and (n - 1) / n", -1, () -> x.order(lessNear, nearOne));
        CHECK.answers("order of (n - 1) / n and 1", -1, () -> x.order(nearOne, one));
        CHECK.answers("order of (n - 1) / n and itself", 0, () -> x.order(nearOne, nearOne));
        CHECK.answers("order of the greatest and the least value", 1, () -> x.order(most, least));
        CHECK.answers("order of the least and the greatest value", -1, () -> x.order(least, most));
    }

    /** Promise 7, "Index: no such values." */
    private static void ordersOfNoSuchValues() {
        CHECK.sentence("Promise 7", NO_SUCH);
        noSuchPair("order", someValues(), (x, a, b) -> x.order(a, b), 4);
        for (int no : Check.NEVER) {
            noSuchPair("order", someValues(), (x, a, b) -> x.order(a, b), no);
        }
        noSuchPair("order", Check.withValues(100), (x, a, b) -> x.order(a, b), 100);
        CHECK.noIndex("order(0, 0) without values", () -> new KiloFractions().order(0, 0));
    }
}
