/** Promises 9 to 12: span, spanTimes, end, within. */
public final class SpanTest {
    private static final Check CHECK = new Check();
    private static final String NO_SUCH_OF_SPAN_TIMES = "Index: no such span or value";

    public static void main(String[] args) {
        spans();
        lowerNotAboveHigher();
        noSuchEnds();
        firstAboveSecond();
        numbersOfSpans();
        thirtySpans();
        spansTimesValues();
        endsTurned();
        timesZero();
        tooLongEnds();
        exactlyLongEnds();
        spanTimesOfNoSuchSpan();
        spanTimesOfNoSuchValue();
        spanTimesWithThirtySpans();
        spanTimesWithHardlyAnyRoom();
        lowerAndHigherEnd();
        endOfNoSuchSpan();
        noSuchEnd();
        lyingIn();
        endsLieIn();
        withinNoSuchSpan();
        noSuchValueWithin();
        CHECK.end();
    }

    /** The values -1/4, 1/3, 0/1, 1/3 and 3/4. */
    private static KiloFractions someValues() {
        KiloFractions x = new KiloFractions();
        x.value(-1, 4);
        x.value(1, 3);
        x.value(0, 1);
        x.value(2, 6);
        x.value(3, 4);
        return x;
    }

    /** These values with the spans -1/4 to 1/3, and 0 to 0. */
    private static KiloFractions someSpans() {
        KiloFractions x = someValues();
        x.span(0, 1);
        x.span(2, 2);
        return x;
    }

    private static void ends(KiloFractions x, int s, int low, int high) {
        CHECK.answers("end(" + s + ", 0)", low, () -> x.end(s, 0));
        CHECK.answers("end(" + s + ", 1)", high, () -> x.end(s, 1));
    }

    private static void hasSpans(int count, KiloFractions x) {
        CHECK.noIndex("end(" + count + ", 0)", () -> x.end(count, 0));
    }

    private static void spansUpTo(KiloFractions x, int count) {
        for (int s = 0; s < count; s++) {
            x.span(0, 0);
        }
    }

    /** Promise 9, "A span: its number." */
    private static void spans() {
        CHECK.sentence("Promise 9", "A span: its number.");
        KiloFractions x = someValues();
        CHECK.answers("span(0, 1)", 0, () -> x.span(0, 1));
        CHECK.answers("span(2, 4)", 1, () -> x.span(2, 4));
        CHECK.answers("span(0, 1) again", 2, () -> x.span(0, 1));
        CHECK.hasValues(5, x);
        hasSpans(3, x);
    }

    /** Promise 11, "The value at an end of a span: which 0 the lower, 1 the higher." */
    private static void lowerAndHigherEnd() {
        CHECK.sentence("Promise 11", "The value at an end of a span: which 0 the lower, 1 the higher.");
        KiloFractions x = someValues();
        x.span(0, 1);
        x.span(2, 4);
        ends(x, 0, 0, 1);
        ends(x, 1, 2, 4);
    }

    /** Terms, "the lower one not above the higher": they may be the same. */
    private static void lowerNotAboveHigher() {
        CHECK.sentence("Terms", "have two ends, values, the lower one not above the higher.");
        KiloFractions x = someValues();
        CHECK.answers("span(2, 2), of one value", 0, () -> x.span(2, 2));
        CHECK.answers("span(1, 3), of the same fraction", 1, () -> x.span(1, 3));
        CHECK.answers("span(3, 1), of the same fraction", 2, () -> x.span(3, 1));
        ends(x, 0, 2, 2);
        ends(x, 1, 1, 3);
        ends(x, 2, 3, 1);
    }

    /** Promise 9, "Index: no such values". */
    private static void noSuchEnds() {
        CHECK.sentence("Promise 9", "Index: no such values");
        KiloFractions x = someValues();
        for (int no : Check.NEVER) {
            CHECK.noIndex("span(" + no + ", 1)", () -> x.span(no, 1));
            CHECK.noIndex("span(1, " + no + ")", () -> x.span(1, no));
            CHECK.noIndex("span(" + no + ", " + no + ")", () -> x.span(no, no));
        }
        CHECK.noIndex("span(5, 4)", () -> x.span(5, 4));
        CHECK.noIndex("span(4, 5)", () -> x.span(4, 5));
        hasSpans(0, x);
        CHECK.answers("span(4, 4)", 0, () -> x.span(4, 4));
        CHECK.noIndex("span(0, 0) without values", () -> new KiloFractions().span(0, 0));
    }

    /** Promise 9, "Meaning: the first is above the second". */
    private static void firstAboveSecond() {
        CHECK.sentence("Promise 9", "Meaning: the first is above the second");
        KiloFractions x = someValues();
        CHECK.noMeaning("span(1, 0)", () -> x.span(1, 0));
        CHECK.noMeaning("span(1, 2)", () -> x.span(1, 2));
        CHECK.noMeaning("span(2, 0)", () -> x.span(2, 0));
        hasSpans(0, x);

        KiloFractions y = new KiloFractions();
        int one = y.value(1, 1);
        int most = Check.whole(y, Check.nines(48));
        int hardlyLess = y.over(y.less(most, one), most);
        CHECK.noMeaning("span of 1 and hardly less", () -> y.span(one, hardlyLess));
        CHECK.answers("span of hardly less and 1", 0, () -> y.span(hardlyLess, one));
    }

    /** Terms, "SPANS 0, 1, .. (at most 30)". */
    private static void numbersOfSpans() {
        CHECK.sentence("Terms", "SPANS 0, 1, .. (at most 30)");
        KiloFractions x = Check.withValues(32);
        for (int i = 0; i < 30; i++) {
            int s = i;
            CHECK.answers("span " + s, s, () -> x.span(s, s + 1));
        }
        for (int s = 0; s < 30; s++) {
            ends(x, s, s, s + 1);
        }
        hasSpans(30, x);
    }

    /** Promise 9, "or there are 30." */
    private static void thirtySpans() {
        CHECK.sentence("Promise 9", "Meaning: the first is above the second, or there are 30.");
        KiloFractions x = Check.withValues(2);
        spansUpTo(x, 29);
        CHECK.answers("span(0, 1) with 29 spans", 29, () -> x.span(0, 1));
        CHECK.noMeaning("span(0, 1) with 30 spans", () -> x.span(0, 1));
        CHECK.noMeaning("span(0, 0) with 30 spans", () -> x.span(0, 0));
        CHECK.noMeaning("span(1, 0) with 30 spans", () -> x.span(1, 0));
        hasSpans(30, x);
        ends(x, 29, 0, 1);
    }

    /** Promise 10, "A span times a value". */
    private static void spansTimesValues() {
        CHECK.sentence("Promise 10", "A span times a value");
        KiloFractions x = someSpans();
        CHECK.answers("spanTimes(0, 4)", 2, () -> x.spanTimes(0, 4));
        ends(x, 2, 5, 6);
        CHECK.is("-3/16", x, 5);
        CHECK.is("1/4", x, 6);
        CHECK.answers("spanTimes(2, 4), of a span so made", 3, () -> x.spanTimes(2, 4));
        ends(x, 3, 7, 8);
        CHECK.is("-9/64", x, 7);
        CHECK.is("3/16", x, 8);
        CHECK.answers("spanTimes(1, 1), of a span of one value", 4, () -> x.spanTimes(1, 1));
        ends(x, 4, 9, 10);
        CHECK.is("0/1", x, 9);
        CHECK.is("0/1", x, 10);
    }

    /** Promise 10, "with its ends turned when that is below 0". */
    private static void endsTurned() {
        CHECK.sentence("Promise 10", "with its ends turned when that is below 0");
        KiloFractions x = someSpans();
        CHECK.answers("spanTimes(0, 0)", 2, () -> x.spanTimes(0, 0));
        ends(x, 2, 5, 6);
        CHECK.is("-1/12", x, 5);
        CHECK.is("1/16", x, 6);
        CHECK.answers("spanTimes(2, 0), turned back", 3, () -> x.spanTimes(2, 0));
        ends(x, 3, 7, 8);
        CHECK.is("-1/64", x, 7);
        CHECK.is("1/48", x, 8);
    }

    /** Promise 10, "with its ends turned when that is below 0": 0 is not, and makes both ends 0. */
    private static void timesZero() {
        CHECK.sentence("Promise 10", "with its ends turned when that is below 0");
        KiloFractions x = someSpans();
        CHECK.answers("spanTimes(0, 2)", 2, () -> x.spanTimes(0, 2));
        ends(x, 2, 5, 6);
        CHECK.is("0/1", x, 5);
        CHECK.is("0/1", x, 6);
    }

    /** Promise 10, "or -1 (no value, no span is made then)": one end, or both, would be too long. */
    private static void tooLongEnds() {
        CHECK.sentence("Promise 10", "or -1 (no value, no span is made then)");
        KiloFractions x = new KiloFractions();
        int one = x.value(1, 1);
        int ten = x.value(10, 1);
        int minusTen = x.value(-10, 1);
        int most = Check.whole(x, Check.nines(48));
        int least = x.times(most, x.value(-1, 1));
        x.span(least, one);
        x.span(one, most);
        x.span(least, most);
        CHECK.answers("the lower end too long", -1, () -> x.spanTimes(0, ten));
        CHECK.answers("the lower end too long, which turns", -1, () -> x.spanTimes(0, minusTen));
        CHECK.answers("the higher end too long", -1, () -> x.spanTimes(1, ten));
        CHECK.answers("the higher end too long, which turns", -1, () -> x.spanTimes(1, minusTen));
        CHECK.answers("both ends too long", -1, () -> x.spanTimes(2, ten));
        CHECK.hasValues(least + 1, x);
        hasSpans(3, x);
        CHECK.answers("spanTimes(0, one)", 3, () -> x.spanTimes(0, one));
        ends(x, 3, least + 1, least + 2);
    }

    /** Promise 10, "its number, or -1": ends of just 48 digits, and one digit more. */
    private static void exactlyLongEnds() {
        CHECK.sentence("Promise 10", "its number, or -1");
        KiloFractions x = new KiloFractions();
        int below = Check.whole(x, Check.aboutTen24(-1));
        int at = Check.whole(x, Check.aboutTen24(0));
        int above = Check.whole(x, Check.aboutTen24(1));
        int minus = x.times(above, x.value(-1, 1));
        int next = minus + 1;
        x.span(below, below);
        x.span(below, at);
        CHECK.answers("48 digits and a minus", 2, () -> x.spanTimes(0, minus));
        CHECK.is("-" + Check.nines(48) + "/1", x, next);
        CHECK.is("-" + Check.nines(48) + "/1", x, next + 1);
        CHECK.answers("49 digits at the higher end alone", -1, () -> x.spanTimes(1, at));
        CHECK.answers("49 digits at the higher end, which turns", -1, () -> x.spanTimes(1, minus));
        CHECK.hasValues(next + 2, x);
        hasSpans(3, x);
    }

    /** Promise 10, "Index: no such span or value": no such span. */
    private static void spanTimesOfNoSuchSpan() {
        CHECK.sentence("Promise 10", NO_SUCH_OF_SPAN_TIMES);
        KiloFractions x = someSpans();
        for (int no : Check.NEVER) {
            CHECK.noIndex("spanTimes(" + no + ", 0)", () -> x.spanTimes(no, 0));
        }
        CHECK.noIndex("spanTimes(2, 0)", () -> x.spanTimes(2, 0));
        CHECK.hasValues(5, x);
        hasSpans(2, x);
        CHECK.noIndex("spanTimes(0, 0) without spans", () -> someValues().spanTimes(0, 0));
    }

    /** Promise 10, "Index: no such span or value": no such value. */
    private static void spanTimesOfNoSuchValue() {
        CHECK.sentence("Promise 10", NO_SUCH_OF_SPAN_TIMES);
        KiloFractions x = someSpans();
        for (int no : Check.NEVER) {
            CHECK.noIndex("spanTimes(0, " + no + ")", () -> x.spanTimes(0, no));
        }
        CHECK.noIndex("spanTimes(0, 5)", () -> x.spanTimes(0, 5));
        CHECK.hasValues(5, x);
        hasSpans(2, x);
        CHECK.answers("spanTimes(1, 4), of the last ones", 2, () -> x.spanTimes(1, 4));
    }

    /** Promise 10, "Meaning: there are 30 spans". */
    private static void spanTimesWithThirtySpans() {
        CHECK.sentence("Promise 10", "Meaning: there are 30 spans");
        KiloFractions x = Check.withValues(2);
        spansUpTo(x, 29);
        CHECK.answers("spanTimes(0, 1) with 29 spans", 29, () -> x.spanTimes(0, 1));
        CHECK.noMeaning("spanTimes(0, 1) with 30 spans", () -> x.spanTimes(0, 1));
        CHECK.noMeaning("spanTimes(29, 0) with 30 spans", () -> x.spanTimes(29, 0));
        CHECK.hasValues(4, x);
        hasSpans(30, x);
    }

    /** Promise 10, "or more than 98 values". */
    private static void spanTimesWithHardlyAnyRoom() {
        CHECK.sentence("Promise 10", "or more than 98 values");
        KiloFractions x = Check.withValues(98);
        x.span(3, 5);
        CHECK.answers("spanTimes(0, 2) with 98 values", 1, () -> x.spanTimes(0, 2));
        ends(x, 1, 98, 99);
        CHECK.is("6/1", x, 98);
        CHECK.is("10/1", x, 99);
        CHECK.noMeaning("spanTimes(0, 2) with 100 values", () -> x.spanTimes(0, 2));
        hasSpans(2, x);

        KiloFractions y = Check.withValues(99);
        y.span(3, 3);
        CHECK.noMeaning("spanTimes(0, 2) with 99 values", () -> y.spanTimes(0, 2));
        CHECK.noMeaning("spanTimes(0, 0) with 99 values", () -> y.spanTimes(0, 0));
        CHECK.hasValues(99, y);
        hasSpans(1, y);
    }

    /** Promise 11, "Index: no such span or end": no such span. */
    private static void endOfNoSuchSpan() {
        CHECK.sentence("Promise 11", "Index: no such span or end.");
        KiloFractions x = someSpans();
        for (int no : Check.NEVER) {
            CHECK.noIndex("end(" + no + ", 0)", () -> x.end(no, 0));
            CHECK.noIndex("end(" + no + ", 1)", () -> x.end(no, 1));
        }
        CHECK.noIndex("end(2, 0)", () -> x.end(2, 0));
        CHECK.noIndex("end(2, 1)", () -> x.end(2, 1));
        ends(x, 1, 2, 2);
        KiloFractions full = Check.withValues(1);
        spansUpTo(full, 30);
        CHECK.noIndex("end(30, 0) with 30 spans", () -> full.end(30, 0));
        ends(full, 29, 0, 0);
    }

    /** Promise 11, "Index: no such span or end": no such end. */
    private static void noSuchEnd() {
        CHECK.sentence("Promise 11", "Index: no such span or end.");
        KiloFractions x = someSpans();
        for (int no : Check.NEVER) {
            CHECK.noIndex("end(0, " + no + ")", () -> x.end(0, no));
        }
        CHECK.noIndex("end(0, 2)", () -> x.end(0, 2));
        CHECK.noIndex("end(0, 3)", () -> x.end(0, 3));
    }

    /** Promise 12, "Whether a value lies in a span". */
    private static void lyingIn() {
        CHECK.sentence("Promise 12", "Whether a value lies in a span");
        KiloFractions x = someSpans();
        int below = x.value(-1, 3);
        CHECK.answers("0 in -1/4 to 1/3", true, () -> x.within(0, 2));
        CHECK.answers("3/4 in -1/4 to 1/3", false, () -> x.within(0, 4));
        CHECK.answers("-1/3 in -1/4 to 1/3", false, () -> x.within(0, below));
        CHECK.answers("1/3 in 0 to 0", false, () -> x.within(1, 1));
        CHECK.answers("-1/4 in 0 to 0", false, () -> x.within(1, 0));
        CHECK.hasValues(6, x);
    }

    /** Promise 12, "(its ends with it)". */
    private static void endsLieIn() {
        CHECK.sentence("Promise 12", "(its ends with it)");
        KiloFractions x = someSpans();
        CHECK.answers("the lower end", true, () -> x.within(0, 0));
        CHECK.answers("the higher end", true, () -> x.within(0, 1));
        CHECK.answers("the same fraction as the higher end", true, () -> x.within(0, 3));
        CHECK.answers("the only value of a span", true, () -> x.within(1, 2));

        KiloFractions y = new KiloFractions();
        int one = y.value(1, 1);
        int most = Check.whole(y, Check.nines(48));
        int more = y.over(most, y.less(most, one));
        int less = y.over(y.less(most, one), most);
        y.span(one, one);
        y.span(less, more);
        CHECK.answers("hardly more than the higher end", false, () -> y.within(0, more));
        CHECK.answers("hardly less than the lower end", false, () -> y.within(0, less));
        CHECK.answers("between such ends", true, () -> y.within(1, one));
        CHECK.answers("such a higher end", true, () -> y.within(1, more));
        CHECK.answers("such a lower end", true, () -> y.within(1, less));
    }

    /** Promise 12, "Index: no such span or value": no such span. */
    private static void withinNoSuchSpan() {
        CHECK.sentence("Promise 12", "Index: no such span or value.");
        KiloFractions x = someSpans();
        for (int no : Check.NEVER) {
            CHECK.noIndex("within(" + no + ", 0)", () -> x.within(no, 0));
        }
        CHECK.noIndex("within(2, 0)", () -> x.within(2, 0));
        CHECK.noIndex("within(0, 0) without spans", () -> someValues().within(0, 0));
    }

    /** Promise 12, "Index: no such span or value": no such value. */
    private static void noSuchValueWithin() {
        CHECK.sentence("Promise 12", "Index: no such span or value.");
        KiloFractions x = someSpans();
        for (int no : Check.NEVER) {
            CHECK.noIndex("within(0, " + no + ")", () -> x.within(0, no));
        }
        CHECK.noIndex("within(0, 5)", () -> x.within(0, 5));
        CHECK.answers("within(0, 4)", false, () -> x.within(0, 4));
    }
}
