/** The bounds of the Terms on values, whoever makes them, and the 512 calls of an object. */
public final class LimitTest {
    private static final Check CHECK = new Check();
    private static final String N = Check.nines(48);
    private static final String LESS_THAN_N = Check.nines(47) + "8";
    private static final String TOO_LONG =
            "whose upper or lower number (without sign) has more than 48 decimal digits, in lowest terms";
    private static final int MOST_CALLS = 512;

    public static void main(String[] args) {
        numbersInARow();
        hundredthOfEachKind();
        minusOneTakesNoNumber();
        upperNumber();
        withoutSign();
        lowerNumber();
        shortOnlyInLowestTerms();
        lowestTermsOfEachKind();
        lowerNumberAboveZero();
        allCallsOfAnObject();
        dearestCallsOfAnObject();
        CHECK.end();
    }

    /** Terms, "VALUES 0, 1, ..": each call that makes values takes the next numbers. */
    private static void numbersInARow() {
        CHECK.sentence("Terms", "VALUES 0, 1, ..");
        KiloFractions x = new KiloFractions();
        CHECK.answers("value(3, 2)", 0, () -> x.value(3, 2));
        CHECK.answers("add(0, 0)", 1, () -> x.add(0, 0));
        CHECK.answers("less(0, 1)", 2, () -> x.less(0, 1));
        CHECK.answers("times(0, 1)", 3, () -> x.times(0, 1));
        CHECK.answers("over(0, 1)", 4, () -> x.over(0, 1));
        CHECK.answers("round(0, 0, 1)", 5, () -> x.round(0, 0, 1));
        CHECK.answers("giving(0)", 6, () -> x.giving(0));
        CHECK.answers("rest()", 7, () -> x.rest());
        CHECK.answers("span(0, 1)", 0, () -> x.span(0, 1));
        CHECK.answers("spanTimes(0, 1)", 1, () -> x.spanTimes(0, 1));
        CHECK.answers("end(1, 0)", 8, () -> x.end(1, 0));
        CHECK.answers("end(1, 1)", 9, () -> x.end(1, 1));
        CHECK.answers("value(3, 2) again", 10, () -> x.value(3, 2));
        CHECK.hasValues(11, x);
    }

    /** Terms, "VALUES 0, 1, .. (at most 100)": each call makes the hundredth, and none makes one more. */
    private static void hundredthOfEachKind() {
        CHECK.sentence("Terms", "VALUES 0, 1, .. (at most 100)");
        for (int kind = 0; kind < 8; kind++) {
            KiloFractions x = Check.withValues(99);
            int by = kind;
            CHECK.answers("the hundredth value by " + name(by), 99, () -> made(x, by));
            for (int k = 0; k < 8; k++) {
                int more = k;
                CHECK.noMeaning("one more by " + name(more), () -> made(x, more));
            }
            CHECK.hasValues(100, x);
        }
    }

    private static int made(KiloFractions x, int kind) {
        return switch (kind) {
            case 0 -> x.value(7, 2);
            case 1 -> x.add(1, 2);
            case 2 -> x.less(1, 2);
            case 3 -> x.times(1, 2);
            case 4 -> x.over(1, 2);
            case 5 -> x.round(1, 0, 1);
            case 6 -> x.giving(1);
            default -> x.rest();
        };
    }

    private static String name(int kind) {
        return new String[] {"value", "add", "less", "times", "over", "round", "giving", "rest"}[kind];
    }

    /** Terms, "makes none, and answers -1": the next value takes the number that was not used. */
    private static void minusOneTakesNoNumber() {
        CHECK.sentence("Terms", "makes none, and answers -1");
        KiloFractions x = new KiloFractions();
        int most = Check.whole(x, N);
        for (int i = 0; i < 3; i++) {
            CHECK.answers("times(most, most)", -1, () -> x.times(most, most));
        }
        CHECK.hasValues(most + 1, x);
        CHECK.makes("value(1, 2)", most + 1, "1/2", x, () -> x.value(1, 2));
        CHECK.is(N + "/1", x, most);

        KiloFractions y = new KiloFractions();
        int big = Check.whole(y, N);
        Check.fill(y, 99);
        CHECK.answers("times(most, most) with 99 values", -1, () -> y.times(big, big));
        CHECK.makes("the hundredth value", 99, "0/1", y, () -> y.less(big, big));
    }

    /** Terms, "has more than 48 decimal digits": the upper number. */
    private static void upperNumber() {
        CHECK.sentence("Terms", TOO_LONG);
        KiloFractions x = new KiloFractions();
        int one = x.value(1, 1);
        int nextToMost = Check.whole(x, LESS_THAN_N);
        CHECK.makes("10^48 - 1", nextToMost + 1, N + "/1", x, () -> x.add(nextToMost, one));
        CHECK.answers("10^48", -1, () -> x.add(nextToMost + 1, one));
        CHECK.answers("2 * 10^48 - 2", -1, () -> x.add(nextToMost + 1, nextToMost + 1));
    }

    /** Terms, "(without sign)": the minus is no digit, and a number below 0 is no shorter. */
    private static void withoutSign() {
        CHECK.sentence("Terms", TOO_LONG);
        KiloFractions x = new KiloFractions();
        int one = x.value(1, 1);
        int nextToLeast = Check.whole(x, "-" + LESS_THAN_N);
        CHECK.makes("-10^48 + 1", nextToLeast + 1, "-" + N + "/1", x, () -> x.less(nextToLeast, one));
        CHECK.answers("-10^48", -1, () -> x.less(nextToLeast + 1, one));
        CHECK.makes("1 / (-10^48 + 1)", nextToLeast + 2, "-1/" + N, x, () -> x.over(one, nextToLeast + 1));
    }

    /** Terms, "has more than 48 decimal digits": the lower number. */
    private static void lowerNumber() {
        CHECK.sentence("Terms", TOO_LONG);
        KiloFractions x = new KiloFractions();
        int one = x.value(1, 1);
        int tenth = x.value(1, 10);
        int most = Check.whole(x, N);
        int least = x.over(one, most);
        CHECK.is("1/" + N, x, least);
        CHECK.answers("1 / (10^49 - 10)", -1, () -> x.times(least, tenth));
        int ten47 = Check.under(x, "1" + Check.zeros(47));
        CHECK.makes("1 / 10^47", ten47 + 1, "1/1" + Check.zeros(47), x, () -> x.times(ten47, one));
        CHECK.answers("1 / 10^48", -1, () -> x.times(ten47, tenth));
        int next = x.less(most, one);
        CHECK.makes("both numbers of 48 digits", next + 1, N + "/" + LESS_THAN_N, x, () -> x.over(most, next));
    }

    /** Terms, "in lowest terms": what is longer only before that is made. */
    private static void shortOnlyInLowestTerms() {
        CHECK.sentence("Terms", TOO_LONG);
        KiloFractions x = new KiloFractions();
        int one = x.value(1, 1);
        int most = Check.whole(x, N);
        int next = x.less(most, one);
        int up = x.over(most, next);
        int down = x.over(next, most);
        CHECK.is(N + "/" + LESS_THAN_N, x, up);
        CHECK.makes("times(up, down)", down + 1, "1/1", x, () -> x.times(up, down));
        CHECK.makes("less(up, up)", down + 2, "0/1", x, () -> x.less(up, up));
        CHECK.makes("over(up, up)", down + 3, "1/1", x, () -> x.over(up, up));
        CHECK.makes("less(up, one)", down + 4, "1/" + LESS_THAN_N, x, () -> x.less(up, one));
        CHECK.makes("less(one, down)", down + 5, "1/" + N, x, () -> x.less(one, down));
        CHECK.makes("add(down, 1/n)", down + 6, "1/1", x, () -> x.add(down, down + 5));
        CHECK.makes("over(most, up)", down + 7, LESS_THAN_N + "/1", x, () -> x.over(most, up));
    }

    /** Terms, "are fractions in lowest terms": of each call that makes values. */
    private static void lowestTermsOfEachKind() {
        CHECK.sentence("Terms", "are fractions in lowest terms");
        KiloFractions x = new KiloFractions();
        int a = x.value(5, 6);
        int b = x.value(2, 3);
        CHECK.makes("5/6 + 2/3", 2, "3/2", x, () -> x.add(a, b));
        CHECK.makes("5/6 - 2/3", 3, "1/6", x, () -> x.less(a, b));
        CHECK.makes("5/6 * 2/3", 4, "5/9", x, () -> x.times(a, b));
        CHECK.makes("5/6 : 2/3", 5, "5/4", x, () -> x.over(a, b));
        CHECK.makes("5/6 to the unit 4", 6, "3/4", x, () -> x.round(a, 4, 4));
        CHECK.makes("2/3 up to the unit 4", 7, "3/4", x, () -> x.round(b, 1, 4));
        CHECK.makes("2/3 down to the unit 4", 8, "1/2", x, () -> x.round(b, 0, 4));
        x.giving(a);
        x.giving(b);
        CHECK.makes("the rest of 5/6 + 2/3", 11, "1/2", x, () -> x.rest());
        x.span(b, a);
        x.spanTimes(0, a);
        CHECK.is("5/9", x, 12);
        CHECK.is("25/36", x, 13);
    }

    /** Terms, "the lower number above 0": of quotients by values below 0, too. */
    private static void lowerNumberAboveZero() {
        CHECK.sentence("Terms", "the lower number above 0");
        KiloFractions x = new KiloFractions();
        int plus = x.value(2, 3);
        int minus = x.value(5, -7);
        CHECK.is("-5/7", x, minus);
        CHECK.makes("plus over minus", 2, "-14/15", x, () -> x.over(plus, minus));
        CHECK.makes("minus over plus", 3, "-15/14", x, () -> x.over(minus, plus));
        CHECK.makes("minus over minus", 4, "1/1", x, () -> x.over(minus, minus));
        int zero = x.less(plus, plus);
        CHECK.makes("zero over minus", 6, "0/1", x, () -> x.over(zero, minus));
    }

    /** What it is, "An object is used for at most 512 calls": all of them, the last one too, answer as due. */
    private static void allCallsOfAnObject() {
        CHECK.sentence("What it is", "An object is used for at most 512 calls after it has been made");
        KiloFractions x = new KiloFractions();
        int calls = 0;
        for (; calls < 100; calls++) {
            int n = calls;
            CHECK.answers("call " + (n + 1), n, () -> x.value(n, 1));
        }
        for (; calls < MOST_CALLS; calls++) {
            int n = calls % 100;
            CHECK.answers("call " + (calls + 1), n % 10, () -> x.digit(n, 0, 0));
        }
    }

    /** What it is, the same sentence: 512 calls of the dearest kind. */
    private static void dearestCallsOfAnObject() {
        CHECK.sentence("What it is", "An object is used for at most 512 calls after it has been made");
        KiloFractions x = new KiloFractions();
        int one = x.value(1, 1);
        int most = Check.whole(x, N);
        int next = x.less(most, one);
        int up = x.over(most, next);
        int down = x.over(next, most);
        for (int calls = down + 1; calls < MOST_CALLS; calls++) {
            CHECK.answers("call " + (calls + 1), -1, () -> x.add(up, down));
        }
    }
}
