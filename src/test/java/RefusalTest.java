/** The refusals of the Terms: their order, and that neither they nor -1 change anything. */
public final class RefusalTest {
    /** A call on an object that is given. */
    private interface CallOn {
        Object answer(KiloFractions x);
    }

    private static final Check CHECK = new Check();
    private static final long MOST = 1_000_000_000L;
    private static final String ORDER = "Refusals, in this order: ";
    private static final String NOTHING_CHANGED = "What is refused changes nothing";

    /** Values of the objects here: 0, 1 and -3/4. */
    private static final int ZERO = 0;
    private static final int ONE = 1;
    private static final int MINUS = 2;

    /** Numbers of a value, a span and a weight that no object here has. */
    private static final int NO_VALUE = 100;
    private static final int NO_SPAN = 30;
    private static final int NO_WEIGHT = 20;

    public static void main(String[] args) {
        indexBeforeRange();
        indexBeforeMeaning();
        indexBeforeArithmetic();
        rangeBeforeMeaning();
        rangeBeforeArithmetic();
        meaningBeforeArithmetic();
        refusedWhereMinusOneWouldBe();
        minusOneWhereThereIsRoom();
        indexChangesNothing();
        rangeChangesNothing();
        meaningChangesNothing();
        arithmeticChangesNothing();
        fullStaysAsItIs();
        minusOneMakesNothing();
        CHECK.end();
    }

    private static void startValues(KiloFractions x) {
        x.value(0, 1);
        x.value(1, 1);
        x.value(-3, 4);
    }

    /** As much of all as there can be: 100 values, 30 spans, 20 weights, each weight 0. */
    private static KiloFractions full() {
        KiloFractions x = new KiloFractions();
        startValues(x);
        Check.fill(x, 100);
        for (int s = 0; s < 30; s++) {
            x.span(MINUS, ONE);
        }
        for (int k = 0; k < 20; k++) {
            x.weight(0);
        }
        return x;
    }

    /** Terms, "index .. range": a call that is wrong in both. */
    private static void indexBeforeRange() {
        CHECK.sentence("Terms", ORDER + "index .. range");
        KiloFractions x = full();
        CHECK.noIndex("round(no value, 0, 0)", () -> x.round(NO_VALUE, 0, 0));
        CHECK.noIndex("round(0, no rule, 0)", () -> x.round(0, 7, 0));
        CHECK.noIndex("round(-1, -1, -1)", () -> x.round(-1, -1, -1));
        CHECK.noIndex("share(-1, no weight)", () -> x.share(-1, NO_WEIGHT));
        CHECK.noIndex("share(MOST + 1, -1)", () -> x.share(MOST + 1, -1));
        KiloFractions empty = new KiloFractions();
        CHECK.noIndex("round(0, 0, 0) without values", () -> empty.round(0, 0, 0));
        CHECK.noIndex("share(-1, 0) without weights", () -> empty.share(-1, 0));
    }

    /** Terms, "index .. meaning": a call that is wrong in both. */
    private static void indexBeforeMeaning() {
        CHECK.sentence("Terms", ORDER + "index .. meaning");
        KiloFractions x = full();
        for (int no : new int[] {NO_VALUE, -1, Integer.MIN_VALUE, Integer.MAX_VALUE}) {
            CHECK.noIndex("add(no value, 0)", () -> x.add(no, 0));
            CHECK.noIndex("add(0, no value)", () -> x.add(0, no));
            CHECK.noIndex("less(no value, 0)", () -> x.less(no, 0));
            CHECK.noIndex("less(0, no value)", () -> x.less(0, no));
            CHECK.noIndex("times(no value, 0)", () -> x.times(no, 0));
            CHECK.noIndex("times(0, no value)", () -> x.times(0, no));
            CHECK.noIndex("over(no value, 1)", () -> x.over(no, 1));
            CHECK.noIndex("over(1, no value)", () -> x.over(1, no));
            CHECK.noIndex("round(no value, 0, 1)", () -> x.round(no, 0, 1));
            CHECK.noIndex("round(0, no rule, 1)", () -> x.round(0, no, 1));
            CHECK.noIndex("span(no value, 0)", () -> x.span(no, 0));
            CHECK.noIndex("span(0, no value)", () -> x.span(0, no));
            CHECK.noIndex("spanTimes(no span, 0)", () -> x.spanTimes(no, 0));
            CHECK.noIndex("spanTimes(0, no value)", () -> x.spanTimes(0, no));
            CHECK.noIndex("giving(no value)", () -> x.giving(no));
        }
        CHECK.noIndex("spanTimes(no span, 0)", () -> x.spanTimes(NO_SPAN, 0));
    }

    /** Terms, "index .. ArithmeticException": a call that is wrong in both. */
    private static void indexBeforeArithmetic() {
        CHECK.sentence("Terms", ORDER + "index .. ArithmeticException");
        KiloFractions x = new KiloFractions();
        startValues(x);
        x.weight(0);
        CHECK.noIndex("over(no value, zero)", () -> x.over(3, ZERO));
        CHECK.noIndex("over(-1, zero)", () -> x.over(-1, ZERO));
        CHECK.noIndex("over(no value, zero) without room", () -> full().over(NO_VALUE, ZERO));
        CHECK.noIndex("share(5, 1) with a weight 0", () -> x.share(5, 1));
        CHECK.noIndex("share(5, -1) with a weight 0", () -> x.share(5, -1));
    }

    /** Terms, "range .. meaning": a call that is wrong in both. */
    private static void rangeBeforeMeaning() {
        CHECK.sentence("Terms", ORDER + "range .. meaning");
        KiloFractions x = full();
        CHECK.noRange("round(0, 0, 0) without room", () -> x.round(0, 0, 0));
        CHECK.noRange("round(0, 6, MOST + 1) without room", () -> x.round(0, 6, MOST + 1));
        CHECK.noRange("weight(-1) without room", () -> x.weight(-1));
        CHECK.noRange("weight(MOST + 1) without room", () -> x.weight(MOST + 1));
    }

    /** Terms, "range .. ArithmeticException": a call that is wrong in both. */
    private static void rangeBeforeArithmetic() {
        CHECK.sentence("Terms", ORDER + "range .. ArithmeticException");
        KiloFractions x = full();
        CHECK.noRange("share(-1, 0) with weights 0", () -> x.share(-1, 0));
        CHECK.noRange("share(MOST + 1, 19) with weights 0", () -> x.share(MOST + 1, 19));
    }

    /** Terms, "meaning .. ArithmeticException": a call that is wrong in both. */
    private static void meaningBeforeArithmetic() {
        CHECK.sentence("Terms", ORDER + "meaning .. ArithmeticException");
        KiloFractions x = full();
        CHECK.noMeaning("value(1, 0) without room", () -> x.value(1, 0));
        CHECK.noMeaning("value(0, 0) without room", () -> x.value(0, 0));
        CHECK.noMeaning("over(1, zero) without room", () -> x.over(1, ZERO));
        CHECK.noMeaning("over(zero, zero) without room", () -> x.over(ZERO, ZERO));
    }

    /**
     * An object with 'count' values, some of which make too long ones: the greatest, the least above 0,
     * (9 * 10^47 + 1) / 9, and 1 / (10^24 + 1) beside the rest 1 / 10^24. Its span is from 1 to the greatest.
     */
    private static final class LongOnes {
        private final KiloFractions x = new KiloFractions();
        private final int greatest;
        private final int least;
        private final int ninth;
        private final int besideTheRest;

        LongOnes(int count) {
            startValues(x);
            greatest = Check.whole(x, Check.nines(48));
            least = x.over(ONE, greatest);
            ninth = x.over(Check.whole(x, "9" + Check.zeros(46) + "1"), x.value(9, 1));
            x.giving(Check.under(x, Check.aboutTen24(0)));
            besideTheRest = Check.under(x, Check.aboutTen24(1));
            x.span(ONE, greatest);
            x.weight(3);
            x.weight(1);
            Check.fill(x, count);
        }

        private static final String[] NAMES = {"add", "less", "times", "over", "round", "giving", "spanTimes"};

        /** The answer of a call of which the value would be too long. */
        int answer(int kind) {
            return switch (kind) {
                case 0 -> x.add(greatest, ONE);
                case 1 -> x.less(least, greatest);
                case 2 -> x.times(greatest, greatest);
                case 3 -> x.over(least, greatest);
                case 4 -> x.round(ninth, 0, 10);
                case 5 -> x.giving(besideTheRest);
                default -> x.spanTimes(0, greatest);
            };
        }
    }

    /** Terms, "meaning (what can not be, no room)": a full object refuses what would be too long, too. */
    private static void refusedWhereMinusOneWouldBe() {
        CHECK.sentence("Terms", "meaning (what can not be, no room): UnsupportedOperationException");
        LongOnes full = new LongOnes(100);
        for (int k = 0; k < LongOnes.NAMES.length; k++) {
            int kind = k;
            CHECK.noMeaning("a too long " + LongOnes.NAMES[k] + " with 100 values", () -> full.answer(kind));
        }
        LongOnes nearlyFull = new LongOnes(99);
        CHECK.noMeaning("a too long spanTimes with 99 values", () -> nearlyFull.answer(6));
    }

    /** Terms, "makes none, and answers -1": with room for one value, or for two, the answer is -1. */
    private static void minusOneWhereThereIsRoom() {
        CHECK.sentence("Terms", "makes none, and answers -1");
        LongOnes room = new LongOnes(98);
        for (int k = 0; k < LongOnes.NAMES.length; k++) {
            int kind = k;
            CHECK.answers("a too long " + LongOnes.NAMES[k] + " with 98 values", -1, () -> room.answer(kind));
        }
        LongOnes roomForOne = new LongOnes(99);
        for (int k = 0; k < 6; k++) {
            int kind = k;
            CHECK.answers("a too long " + LongOnes.NAMES[k] + " with 99 values", -1, () -> roomForOne.answer(kind));
        }
    }

    /** Three values and what is given of 1/2, a span, the weights 3 and 1, the rest 1/2. */
    private static KiloFractions some() {
        KiloFractions x = new KiloFractions();
        startValues(x);
        x.giving(x.value(1, 2));
        x.span(MINUS, ONE);
        x.weight(3);
        x.weight(1);
        return x;
    }

    /** All that can be seen of an object with few values and room for more; it is used up by this. */
    private static String state(KiloFractions x) {
        StringBuilder text = new StringBuilder();
        for (int i = 0; i < 10; i++) {
            int n = i;
            text.append(Check.answerOf(() -> Check.text(x, n))).append(' ');
            text.append(Check.answerOf(() -> x.end(n, 0))).append(' ');
            text.append(Check.answerOf(() -> x.end(n, 1))).append(' ');
            text.append(Check.answerOf(() -> x.share(1000, n))).append('\n');
        }
        int rest = x.rest();
        text.append("rest ").append(rest).append(" is ").append(Check.text(x, rest));
        text.append(", next span ").append(x.span(0, 0));
        return text.append(", next weight ").append(x.weight(1)).toString();
    }

    private static void changesNothing(String what, String due, CallOn call) {
        KiloFractions x = some();
        CHECK.answers(what, due, () -> call.answer(x));
        CHECK.answers("the object behind " + what, state(some()), () -> state(x));
    }

    /** Terms, "What is refused changes nothing", for an index that is refused. */
    private static void indexChangesNothing() {
        CHECK.sentence("Terms", NOTHING_CHANGED);
        String due = "throws.IndexOutOfBoundsException";
        for (int no : new int[] {-1, 5}) {
            changesNothing("add(" + no + ", 1)", due, x -> x.add(no, 1));
            changesNothing("add(1, " + no + ")", due, x -> x.add(1, no));
            changesNothing("less(" + no + ", 1)", due, x -> x.less(no, 1));
            changesNothing("less(1, " + no + ")", due, x -> x.less(1, no));
            changesNothing("times(" + no + ", 1)", due, x -> x.times(no, 1));
            changesNothing("times(1, " + no + ")", due, x -> x.times(1, no));
            changesNothing("over(" + no + ", 1)", due, x -> x.over(no, 1));
            changesNothing("over(1, " + no + ")", due, x -> x.over(1, no));
            changesNothing("order(" + no + ", 1)", due, x -> x.order(no, 1));
            changesNothing("round(" + no + ", 0, 1)", due, x -> x.round(no, 0, 1));
            changesNothing("span(" + no + ", 1)", due, x -> x.span(no, 1));
            changesNothing("span(1, " + no + ")", due, x -> x.span(1, no));
            changesNothing("spanTimes(" + no + ", 1)", due, x -> x.spanTimes(no, 1));
            changesNothing("spanTimes(0, " + no + ")", due, x -> x.spanTimes(0, no));
            changesNothing("end(" + no + ", 0)", due, x -> x.end(no, 0));
            changesNothing("end(0, " + no + ")", due, x -> x.end(0, no));
            changesNothing("within(" + no + ", 0)", due, x -> x.within(no, 0));
            changesNothing("within(0, " + no + ")", due, x -> x.within(0, no));
            changesNothing("share(1, " + no + ")", due, x -> x.share(1, no));
            changesNothing("giving(" + no + ")", due, x -> x.giving(no));
            changesNothing("sign(" + no + ")", due, x -> x.sign(no));
            changesNothing("digit(" + no + ", 0, 0)", due, x -> x.digit(no, 0, 0));
            changesNothing("digit(0, " + no + ", 0)", due, x -> x.digit(0, no, 0));
            changesNothing("digit(0, 0, " + no + ")", due, x -> x.digit(0, 0, no));
        }
        changesNothing("round(0, -1, 1)", due, x -> x.round(0, -1, 1));
        changesNothing("round(0, 7, 1)", due, x -> x.round(0, 7, 1));
    }

    /** Terms, "What is refused changes nothing", for a range that is refused. */
    private static void rangeChangesNothing() {
        CHECK.sentence("Terms", NOTHING_CHANGED);
        String due = "throws.IllegalArgumentException";
        for (long no : new long[] {-1, MOST + 1}) {
            changesNothing("round(0, 0, " + no + ")", due, x -> x.round(0, 0, no));
            changesNothing("weight(" + no + ")", due, x -> x.weight(no));
            changesNothing("share(" + no + ", 0)", due, x -> x.share(no, 0));
        }
        changesNothing("round(0, 0, 0)", due, x -> x.round(0, 0, 0));
    }

    /** Terms, "What is refused changes nothing", for a span that can not be. */
    private static void meaningChangesNothing() {
        CHECK.sentence("Terms", NOTHING_CHANGED);
        changesNothing("span(one, zero)", "throws.UnsupportedOperationException", x -> x.span(ONE, ZERO));
        changesNothing("span(zero, minus)", "throws.UnsupportedOperationException", x -> x.span(ZERO, MINUS));
    }

    /** Terms, "What is refused changes nothing", for a 0 that something is over. */
    private static void arithmeticChangesNothing() {
        CHECK.sentence("Terms", NOTHING_CHANGED);
        changesNothing("value(1, 0)", "throws.ArithmeticException", x -> x.value(1, 0));
        changesNothing("over(one, zero)", "throws.ArithmeticException", x -> x.over(ONE, ZERO));
        KiloFractions x = new KiloFractions();
        x.weight(0);
        CHECK.noArithmetic("share(1, 0)", () -> x.share(1, 0));
        CHECK.answers("the next weight", 2, () -> x.weight(1));
        CHECK.answers("share(1, 1)", 1L, () -> x.share(1, 1));
    }

    /** Terms, "What is refused changes nothing", for want of room. */
    private static void fullStaysAsItIs() {
        CHECK.sentence("Terms", NOTHING_CHANGED);
        KiloFractions x = full();
        CHECK.noMeaning("value(7, 2)", () -> x.value(7, 2));
        CHECK.noMeaning("add(1, 2)", () -> x.add(ONE, MINUS));
        CHECK.noMeaning("less(1, 2)", () -> x.less(ONE, MINUS));
        CHECK.noMeaning("times(1, 2)", () -> x.times(ONE, MINUS));
        CHECK.noMeaning("over(1, 2)", () -> x.over(ONE, MINUS));
        CHECK.noMeaning("round(2, 0, 2)", () -> x.round(MINUS, 0, 2));
        CHECK.noMeaning("span(0, 1)", () -> x.span(ZERO, ONE));
        CHECK.noMeaning("spanTimes(0, 2)", () -> x.spanTimes(0, MINUS));
        CHECK.noMeaning("weight(5)", () -> x.weight(5));
        CHECK.noMeaning("giving(2)", () -> x.giving(MINUS));
        CHECK.noMeaning("rest()", () -> x.rest());
        CHECK.hasValues(100, x);
        CHECK.is("0/1", x, ZERO);
        CHECK.is("-3/4", x, MINUS);
        for (int a = 3; a < 100; a++) {
            int made = a;
            CHECK.answers("order(" + a + ", one)", 0, () -> x.order(made, ONE));
        }
        for (int s = 0; s < 30; s++) {
            int span = s;
            CHECK.answers("end(" + s + ", 0)", MINUS, () -> x.end(span, 0));
            CHECK.answers("end(" + s + ", 1)", ONE, () -> x.end(span, 1));
        }
        CHECK.noIndex("end(30, 0)", () -> x.end(NO_SPAN, 0));
        CHECK.noIndex("share(5, 20)", () -> x.share(5, NO_WEIGHT));
        CHECK.noArithmetic("share(5, 0)", () -> x.share(5, 0));
    }

    /** Terms, "-1 makes nothing": no value, no span, no other rest. */
    private static void minusOneMakesNothing() {
        CHECK.sentence("Terms", "-1 makes nothing.");
        for (int k = 0; k < LongOnes.NAMES.length; k++) {
            LongOnes ones = new LongOnes(60);
            KiloFractions x = ones.x;
            int kind = k;
            CHECK.answers("a too long " + LongOnes.NAMES[k], -1, () -> ones.answer(kind));
            CHECK.hasValues(60, x);
            CHECK.is("1/1", x, 59);
            CHECK.is(Check.nines(48) + "/1", x, ones.greatest);
            CHECK.noIndex("end(1, 0)", () -> x.end(1, 0));
            CHECK.answers("end(0, 1)", ones.greatest, () -> x.end(0, 1));
            CHECK.makes("rest()", 60, "1/" + Check.aboutTen24(0), x, () -> x.rest());
            CHECK.answers("the next span", 1, () -> x.span(ONE, ONE));
            CHECK.answers("the next weight", 3, () -> x.weight(1));
            CHECK.answers("share(5, 0)", 3L, () -> x.share(5, 0));
        }
    }
}
