/** Promise 1: a new object. */
public final class NewObjectTest {
    private static final Check CHECK = new Check();
    private static final String ALL = "No values, spans, weights; the rest is 0.";

    public static void main(String[] args) {
        noValues();
        noSpans();
        noWeights();
        noRest();
        nothingOfAnotherObject();
        CHECK.end();
    }

    /** Promise 1, "No values, spans, weights": no values. */
    private static void noValues() {
        CHECK.sentence("Promise 1", ALL);
        KiloFractions x = new KiloFractions();
        CHECK.noIndex("sign(0)", () -> x.sign(0));
        CHECK.noIndex("digit(0, 0, 0)", () -> x.digit(0, 0, 0));
        CHECK.noIndex("add(0, 0)", () -> x.add(0, 0));
        CHECK.noIndex("less(0, 0)", () -> x.less(0, 0));
        CHECK.noIndex("times(0, 0)", () -> x.times(0, 0));
        CHECK.noIndex("over(0, 0)", () -> x.over(0, 0));
        CHECK.noIndex("order(0, 0)", () -> x.order(0, 0));
        CHECK.noIndex("round(0, 0, 1)", () -> x.round(0, 0, 1));
        CHECK.noIndex("span(0, 0)", () -> x.span(0, 0));
        CHECK.noIndex("giving(0)", () -> x.giving(0));
        CHECK.answers("the first value", 0, () -> x.value(1, 2));
    }

    /** Promise 1, "No values, spans, weights": no spans. */
    private static void noSpans() {
        CHECK.sentence("Promise 1", ALL);
        KiloFractions x = Check.withValues(1);
        CHECK.noIndex("end(0, 0)", () -> x.end(0, 0));
        CHECK.noIndex("end(0, 1)", () -> x.end(0, 1));
        CHECK.noIndex("within(0, 0)", () -> x.within(0, 0));
        CHECK.noIndex("spanTimes(0, 0)", () -> x.spanTimes(0, 0));
        CHECK.answers("the first span", 0, () -> x.span(0, 0));
    }

    /** Promise 1, "No values, spans, weights": no weights. */
    private static void noWeights() {
        CHECK.sentence("Promise 1", ALL);
        KiloFractions x = new KiloFractions();
        CHECK.noIndex("share(0, 0)", () -> x.share(0, 0));
        CHECK.noIndex("share(5, 0)", () -> x.share(5, 0));
        CHECK.answers("the first weight", 1, () -> x.weight(5));
    }

    /** Promise 1, "the rest is 0". */
    private static void noRest() {
        CHECK.sentence("Promise 1", ALL);
        KiloFractions x = new KiloFractions();
        CHECK.makes("rest()", 0, "0/1", x, () -> x.rest());
        KiloFractions y = new KiloFractions();
        int third = y.value(1, 3);
        CHECK.makes("giving a third", 1, "0/1", y, () -> y.giving(third));
        CHECK.makes("rest()", 2, "1/3", y, () -> y.rest());
    }

    /** Promise 1, the whole sentence, beside an object that has all of these. */
    private static void nothingOfAnotherObject() {
        CHECK.sentence("Promise 1", ALL);
        KiloFractions used = Check.withValues(3);
        used.span(0, 1);
        used.weight(5);
        used.giving(used.value(1, 2));
        KiloFractions x = new KiloFractions();
        CHECK.hasValues(0, x);
        CHECK.noIndex("end(0, 0)", () -> x.end(0, 0));
        CHECK.noIndex("share(5, 0)", () -> x.share(5, 0));
        CHECK.makes("rest()", 0, "0/1", x, () -> x.rest());
        CHECK.makes("rest() of the used object", 5, "1/2", used, () -> used.rest());
    }
}
