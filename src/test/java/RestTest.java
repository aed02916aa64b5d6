/** Promises 15 and 16: giving, rest. */
public final class RestTest {
    private static final Check CHECK = new Check();

    public static void main(String[] args) {
        thirds();
        belowZero();
        sumLongerThanWhatIsGiven();
        tooLongRest();
        refused();
        CHECK.end();
    }

    /** Gives value a: the new value, and the rest behind it as one more. */
    private static void gives(KiloFractions x, int a, int number, String due, String rest) {
        CHECK.answers("giving(" + a + ")", number, () -> x.giving(a));
        CHECK.is(due, x, number);
        CHECK.answers("rest()", number + 1, () -> x.rest());
        CHECK.is(rest, x, number + 1);
    }

    private static void thirds() {
        KiloFractions x = new KiloFractions();
        x.value(1, 3);
        x.value(5, 2);
        gives(x, 0, 2, "0/1", "1/3");
        gives(x, 0, 4, "0/1", "2/3");
        gives(x, 0, 6, "1/1", "0/1");
        gives(x, 1, 8, "2/1", "1/2");
        gives(x, 1, 10, "3/1", "0/1");
        gives(x, 8, 12, "2/1", "0/1");
        CHECK.answers("rest() again", 14, () -> x.rest());
        CHECK.answers("rest() once more", 15, () -> x.rest());
        CHECK.is("0/1", x, 15);
    }

    private static void belowZero() {
        KiloFractions x = new KiloFractions();
        x.value(-1, 4);
        x.value(-7, 2);
        x.value(-2, 1);
        gives(x, 0, 3, "-1/1", "3/4");
        gives(x, 0, 5, "0/1", "1/2");
        gives(x, 1, 7, "-3/1", "0/1");
        gives(x, 1, 9, "-4/1", "1/2");
        gives(x, 2, 11, "-2/1", "1/2");
    }

    private static void sumLongerThanWhatIsGiven() {
        KiloFractions x = new KiloFractions();
        int third = x.value(1, 3);
        int seventh = x.over(Check.whole(x, Check.nines(47) + "8"), x.value(7, 1));
        x.giving(third);
        int next = seventh + 2;
        // (10^48 - 2) / 7 is 142..856 and 6 / 7; with 1 / 3 it goes over the next whole number.
        String sixDigits = "142857".repeat(8);
        gives(x, seventh, next, sixDigits + "/1", "4/21");
    }

    private static void tooLongRest() {
        KiloFractions x = new KiloFractions();
        int one = x.value(1, 1);
        int under = x.over(one, Check.whole(x, Check.nines(40)));
        int other = x.over(one, Check.whole(x, Check.nines(39) + "8"));
        int third = x.value(1, 3);
        x.giving(under);
        int next = third + 2;
        CHECK.answers("giving with a too long rest", -1, () -> x.giving(other));
        CHECK.noIndex("what -1 has not made", () -> x.sign(next));
        CHECK.answers("rest() behind -1", next, () -> x.rest());
        CHECK.is("1/" + Check.nines(40), x, next);
        CHECK.answers("giving(one)", next + 1, () -> x.giving(one));
        CHECK.is("1/1", x, next + 1);
    }

    private static void refused() {
        KiloFractions x = Check.withValues(98);
        CHECK.noIndex("giving(98)", () -> x.giving(98));
        CHECK.noIndex("giving(-1)", () -> x.giving(-1));
        int half = x.value(1, 2);
        CHECK.answers("the hundredth value", 99, () -> x.giving(half));
        CHECK.noMeaning("giving(half) of a full object", () -> x.giving(half));
        CHECK.noIndex("giving(100) of a full object", () -> x.giving(100));
        CHECK.noMeaning("rest() of a full object", () -> x.rest());
    }
}
