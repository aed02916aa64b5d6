/** Promises 15 and 16: giving, rest, with the carried rest of the Terms. */
public final class RestTest {
    private static final Check CHECK = new Check();
    private static final String NINES = Check.nines(48);
    private static final String TOO_LONG = "-1 when that, or the new rest, would be too long (then the rest stays)";

    public static void main(String[] args) {
        restIsAdded();
        notAboveThat();
        nothingLeft();
        longestGiven();
        longestRest();
        tooLongRest();
        sumLongerThanWhatIsMade();
        noSuchValue();
        noRoomToGive();
        restAsAValue();
        noRoomForTheRest();
        CHECK.end();
    }

    /** Gives value a: the new value, and the rest behind it as one more. */
    private static void gives(KiloFractions x, int a, int number, String due, String rest) {
        CHECK.makes("giving(" + a + ")", number, due, x, () -> x.giving(a));
        restIs(x, number + 1, rest);
    }

    private static void restIs(KiloFractions x, int number, String due) {
        CHECK.makes("rest()", number, due, x, () -> x.rest());
    }

    /** Terms, "giving() takes a value, adds the rest (0 at first)". */
    private static void restIsAdded() {
        CHECK.sentence("Terms", "giving() takes a value, adds the rest (0 at first)");
        KiloFractions x = new KiloFractions();
        x.value(1, 3);
        x.value(5, 2);
        gives(x, 0, 2, "0/1", "1/3");
        gives(x, 0, 4, "0/1", "2/3");
        gives(x, 0, 6, "1/1", "0/1");
        gives(x, 1, 8, "2/1", "1/2");
        gives(x, 1, 10, "3/1", "0/1");
    }

    /** Terms, "answers the greatest whole number not above that, and keeps what is left": below 0, too. */
    private static void notAboveThat() {
        CHECK.sentence("Terms", "answers the greatest whole number not above that, and keeps what is left");
        KiloFractions x = new KiloFractions();
        x.value(-1, 4);
        x.value(-7, 2);
        x.value(-2, 1);
        gives(x, 0, 3, "-1/1", "3/4");
        gives(x, 0, 5, "0/1", "1/2");
        gives(x, 1, 7, "-3/1", "0/1");
        gives(x, 1, 9, "-4/1", "1/2");
        gives(x, 2, 11, "-2/1", "1/2");
    }

    /** Terms, "keeps what is left": nothing is left of a whole number, nor of 0. */
    private static void nothingLeft() {
        CHECK.sentence("Terms", "keeps what is left");
        KiloFractions x = new KiloFractions();
        x.value(2, 1);
        x.value(0, 1);
        x.value(-2, 1);
        gives(x, 0, 3, "2/1", "0/1");
        gives(x, 1, 5, "0/1", "0/1");
        gives(x, 2, 7, "-2/1", "0/1");
    }

    /** Promise 15, "-1 when that, or the new rest, would be too long": 48 digits and a sign are not. */
    private static void longestGiven() {
        CHECK.sentence("Promise 15", TOO_LONG);
        KiloFractions x = new KiloFractions();
        int most = Check.whole(x, NINES);
        int least = x.times(most, x.value(-1, 1));
        gives(x, most, least + 1, NINES + "/1", "0/1");
        gives(x, least, least + 3, "-" + NINES + "/1", "0/1");
    }

    /** Promise 15, "-1 when that, or the new rest, would be too long": a rest with 48 digits below is not. */
    private static void longestRest() {
        CHECK.sentence("Promise 15", TOO_LONG);
        KiloFractions x = new KiloFractions();
        int below = Check.under(x, Check.aboutTen24(-1));
        int at = Check.under(x, Check.aboutTen24(0));
        gives(x, below, at + 1, "0/1", "1/" + Check.nines(24));
        gives(x, at, at + 3, "0/1", "1" + Check.nines(24) + "/" + Check.productAboutTen24(-1, 0));

        KiloFractions y = new KiloFractions();
        int least = Check.under(y, "-" + NINES);
        gives(y, least, least + 1, "-1/1", Check.nines(47) + "8/" + NINES);
    }

    /** Promise 15, "or the new rest, would be too long (then the rest stays)". */
    private static void tooLongRest() {
        CHECK.sentence("Promise 15", TOO_LONG);
        KiloFractions x = new KiloFractions();
        int at = Check.under(x, Check.aboutTen24(0));
        int above = Check.under(x, Check.aboutTen24(1));
        int minus = x.times(above, x.value(-1, 1));
        int one = x.value(1, 1);
        gives(x, at, one + 1, "0/1", "1/" + Check.aboutTen24(0));
        CHECK.answers("giving with 49 digits below in the rest", -1, () -> x.giving(above));
        CHECK.answers("giving below 0 with 49 digits below in the rest", -1, () -> x.giving(minus));
        CHECK.hasValues(one + 3, x);
        restIs(x, one + 3, "1/" + Check.aboutTen24(0));
        gives(x, one, one + 4, "1/1", "1/" + Check.aboutTen24(0));
    }

    /** Promise 15, "-1 when that, or the new rest, would be too long": not when their sum would be. */
    private static void sumLongerThanWhatIsMade() {
        CHECK.sentence("Promise 15", TOO_LONG);
        KiloFractions x = new KiloFractions();
        int third = x.value(1, 3);
        int seventh = x.over(Check.whole(x, Check.nines(47) + "8"), x.value(7, 1));
        int most = Check.whole(x, NINES);
        gives(x, third, most + 1, "0/1", "1/3");
        gives(x, most, most + 3, NINES + "/1", "1/3");
        // (10^48 - 2) / 7 is 142..856 and 6 / 7; with 1 / 3 it goes over the next whole number.
        gives(x, seventh, most + 5, "142857".repeat(8) + "/1", "4/21");
    }

    /** Promise 15, "Index: no such value". */
    private static void noSuchValue() {
        CHECK.sentence("Promise 15", "Index: no such value");
        KiloFractions x = new KiloFractions();
        x.value(1, 2);
        gives(x, 0, 1, "0/1", "1/2");
        for (int no : Check.NEVER) {
            CHECK.noIndex("giving(" + no + ")", () -> x.giving(no));
        }
        CHECK.noIndex("giving(3)", () -> x.giving(3));
        restIs(x, 3, "1/2");
        CHECK.noIndex("giving(0) without values", () -> new KiloFractions().giving(0));
    }

    /** Promise 15, "Meaning: there are 100." */
    private static void noRoomToGive() {
        CHECK.sentence("Promise 15", "Meaning: there are 100.");
        KiloFractions x = Check.withValues(99);
        CHECK.makes("giving(98) with 99 values", 99, "98/1", x, () -> x.giving(98));
        CHECK.noMeaning("giving(98) with 100 values", () -> x.giving(98));
        CHECK.noMeaning("giving(0) with 100 values", () -> x.giving(0));
        CHECK.hasValues(100, x);
    }

    /** Promise 16, "The rest as a value: its number." */
    private static void restAsAValue() {
        CHECK.sentence("Promise 16", "The rest as a value: its number.");
        KiloFractions x = new KiloFractions();
        restIs(x, 0, "0/1");
        int third = x.value(1, 3);
        CHECK.makes("giving(third)", 2, "0/1", x, () -> x.giving(third));
        restIs(x, 3, "1/3");
        restIs(x, 4, "1/3");
        CHECK.makes("giving(a rest)", 5, "0/1", x, () -> x.giving(4));
        restIs(x, 6, "2/3");
        CHECK.is("1/3", x, 3);
    }

    /** Promise 16, "Meaning: there are 100." */
    private static void noRoomForTheRest() {
        CHECK.sentence("Promise 16", "Meaning: there are 100.");
        KiloFractions x = Check.withValues(97);
        int half = x.value(1, 2);
        CHECK.makes("giving(half)", 98, "0/1", x, () -> x.giving(half));
        restIs(x, 99, "1/2");
        CHECK.noMeaning("rest() with 100 values", () -> x.rest());
        CHECK.hasValues(100, x);
        CHECK.is("1/2", x, 99);
    }
}
