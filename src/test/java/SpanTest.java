/** Promises 9 to 12: span, spanTimes, end, within. */
public final class SpanTest {
    private static final Check CHECK = new Check();

    public static void main(String[] args) {
        spans();
        lyingIn();
        spansTimesValues();
        tooLong();
        full();
        CHECK.end();
    }

    /** The values -1/4, 1/3, 0/1, 1/3 and 3/4. */
    private static KiloFractions someValues() {
        KiloFractions x = new KiloFractions();
        x.value(-1, 4);
        x.value(1, 3);
        x.value(0, 1);
        x.value(2, 6);
        x.value(3, 4);
        return x;
    }

    private static void ends(KiloFractions x, int s, int low, int high) {
        CHECK.answers("end(" + s + ", 0)", low, () -> x.end(s, 0));
        CHECK.answers("end(" + s + ", 1)", high, () -> x.end(s, 1));
    }

    private static void spans() {
        KiloFractions x = someValues();
        CHECK.noMeaning("span(1, 0)", () -> x.span(1, 0));
        CHECK.noIndex("end(0, 0) behind a refusal", () -> x.end(0, 0));
        CHECK.answers("span(0, 1)", 0, () -> x.span(0, 1));
        CHECK.answers("span(2, 2)", 1, () -> x.span(2, 2));
        CHECK.answers("span(3, 1)", 2, () -> x.span(3, 1));
        ends(x, 0, 0, 1);
        ends(x, 1, 2, 2);
        ends(x, 2, 3, 1);
        for (int wrong : new int[] {-1, 5, 100, Integer.MIN_VALUE, Integer.MAX_VALUE}) {
            CHECK.noIndex("span(" + wrong + ", 1)", () -> x.span(wrong, 1));
            CHECK.noIndex("span(0, " + wrong + ")", () -> x.span(0, wrong));
            CHECK.noIndex("end(" + wrong + ", 0)", () -> x.end(wrong, 0));
        }
        CHECK.noIndex("end(3, 0)", () -> x.end(3, 0));
        CHECK.noIndex("end(0, 2)", () -> x.end(0, 2));
        CHECK.noIndex("end(0, -1)", () -> x.end(0, -1));
    }

    private static void lyingIn() {
        KiloFractions x = someValues();
        x.span(0, 1);
        x.span(3, 3);
        boolean[][] due = {{true, true, true, true, false}, {false, true, false, true, false}};
        for (int s = 0; s < due.length; s++) {
            for (int a = 0; a < due[s].length; a++) {
                int spanNumber = s;
                int valueNumber = a;
                CHECK.answers("within(" + s + ", " + a + ")", due[s][a], () -> x.within(spanNumber, valueNumber));
            }
        }
        int below = x.value(-2, 4);
        CHECK.answers("within a span that lies above", false, () -> x.within(0, below));
        CHECK.noIndex("within(2, 0)", () -> x.within(2, 0));
        CHECK.noIndex("within(-1, 0)", () -> x.within(-1, 0));
        CHECK.noIndex("within(0, 6)", () -> x.within(0, 6));
        CHECK.noIndex("within(0, -1)", () -> x.within(0, -1));
    }

    private static void spansTimesValues() {
        KiloFractions x = someValues();
        x.span(0, 1);
        x.span(2, 2);
        CHECK.answers("spanTimes(0, 4)", 2, () -> x.spanTimes(0, 4));
        ends(x, 2, 5, 6);
        CHECK.is("-3/16", x, 5);
        CHECK.is("1/4", x, 6);
        CHECK.answers("spanTimes(0, 0)", 3, () -> x.spanTimes(0, 0));
        ends(x, 3, 7, 8);
        CHECK.is("-1/12", x, 7);
        CHECK.is("1/16", x, 8);
        CHECK.answers("spanTimes(0, 2)", 4, () -> x.spanTimes(0, 2));
        ends(x, 4, 9, 10);
        CHECK.is("0/1", x, 9);
        CHECK.is("0/1", x, 10);
        CHECK.answers("spanTimes(1, 1)", 5, () -> x.spanTimes(1, 1));
        ends(x, 5, 11, 12);
        CHECK.noIndex("spanTimes(6, 0)", () -> x.spanTimes(6, 0));
        CHECK.noIndex("spanTimes(-1, 0)", () -> x.spanTimes(-1, 0));
        CHECK.noIndex("spanTimes(0, 13)", () -> x.spanTimes(0, 13));
        CHECK.noIndex("spanTimes(0, -1)", () -> x.spanTimes(0, -1));
        CHECK.answers("the value behind the refusals", 13, () -> x.value(1, 1));
    }

    private static void tooLong() {
        KiloFractions x = new KiloFractions();
        int one = x.value(1, 1);
        int minus = x.value(-10, 1);
        int big = Check.whole(x, Check.nines(48));
        int low = x.times(big, x.value(-1, 1));
        x.span(low, one);
        x.span(one, big);
        int next = low + 1;
        CHECK.answers("a too long lower end", -1, () -> x.spanTimes(0, big));
        CHECK.answers("a too long higher end", -1, () -> x.spanTimes(0, minus));
        CHECK.answers("a too long higher end, not turned", -1, () -> x.spanTimes(1, big));
        CHECK.answers("a too long lower end, turned", -1, () -> x.spanTimes(1, minus));
        CHECK.noIndex("a value that -1 has not made", () -> x.sign(next));
        CHECK.noIndex("a span that -1 has not made", () -> x.end(2, 0));
        CHECK.answers("spanTimes(0, one)", 2, () -> x.spanTimes(0, one));
        ends(x, 2, next, next + 1);
    }

    private static void full() {
        KiloFractions x = Check.withValues(98);
        for (int s = 0; s < 28; s++) {
            x.span(s, s + 1);
        }
        CHECK.answers("spanTimes with room for two values", 28, () -> x.spanTimes(0, 0));
        ends(x, 28, 98, 99);
        CHECK.noMeaning("spanTimes(0, 0) with 100 values", () -> x.spanTimes(0, 0));
        CHECK.answers("the thirtieth span", 29, () -> x.span(0, 0));
        CHECK.noMeaning("span(0, 0) with 30 spans", () -> x.span(0, 0));
        CHECK.noMeaning("span(1, 0) with 30 spans", () -> x.span(1, 0));
        CHECK.noIndex("span(100, 0) with 30 spans", () -> x.span(100, 0));
        CHECK.noIndex("spanTimes(30, 0) with 30 spans", () -> x.spanTimes(30, 0));
        CHECK.noIndex("spanTimes(0, 100) with 30 spans", () -> x.spanTimes(0, 100));
        CHECK.noIndex("end(30, 0) with 30 spans", () -> x.end(30, 0));

        KiloFractions y = Check.withValues(99);
        y.span(0, 1);
        CHECK.noMeaning("spanTimes(0, 0) with 99 values", () -> y.spanTimes(0, 0));
        CHECK.answers("the value behind the refusal", 99, () -> y.value(1, 1));

        KiloFractions z = Check.withValues(2);
        for (int s = 0; s < 30; s++) {
            z.span(0, 1);
        }
        CHECK.noMeaning("spanTimes(0, 0) with 30 spans", () -> z.spanTimes(0, 0));
        CHECK.noIndex("a value of a refused spanTimes", () -> z.sign(2));
    }
}
