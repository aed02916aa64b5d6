/** Promise 1: a new object. */
public final class NewObjectTest {
    public static void main(String[] args) {
        Check check = new Check();
        KiloFractions x = new KiloFractions();
        check.noIndex("sign(0) at first", () -> x.sign(0));
        check.noIndex("digit(0, 0, 0) at first", () -> x.digit(0, 0, 0));
        check.noIndex("order(0, 0) at first", () -> x.order(0, 0));
        check.noIndex("giving(0) at first", () -> x.giving(0));
        check.noIndex("end(0, 0) at first", () -> x.end(0, 0));
        check.noIndex("within(0, 0) at first", () -> x.within(0, 0));
        check.noIndex("share(0, 0) at first", () -> x.share(0, 0));
        check.answers("rest()", 0, () -> x.rest());
        check.is("0/1", x, 0);
        check.answers("weight(5)", 1, () -> x.weight(5));
        check.answers("span(0, 0)", 0, () -> x.span(0, 0));

        KiloFractions other = new KiloFractions();
        check.noIndex("sign(0) of another object", () -> other.sign(0));
        check.noIndex("end(0, 0) of another object", () -> other.end(0, 0));
        check.answers("weight(5) of another object", 1, () -> other.weight(5));
        check.end();
    }
}
