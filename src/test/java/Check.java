import java.math.BigInteger;

/** Counts and prints the answers of a test that are not as due. */
final class Check {
    /** A call whose answer is looked at. */
    interface Call {
        Object answer();
    }

    private int wrong = 0;

    /** The call answers what is due. */
    void answers(String what, Object due, Call call) {
        Object got = answerOf(call);
        if (!got.equals(due)) {
            wrong++;
            System.out.println(what + " answered " + got + ", due is " + due);
        }
    }

    /** The call throws an exception of the very class, as a 'throw' of the program makes it. */
    void refuses(String what, Class<? extends RuntimeException> due, Call call) {
        answers(what, "throws." + due.getSimpleName(), call);
    }

    void noIndex(String what, Call call) {
        refuses(what, IndexOutOfBoundsException.class, call);
    }

    void noRange(String what, Call call) {
        refuses(what, IllegalArgumentException.class, call);
    }

    void noMeaning(String what, Call call) {
        refuses(what, UnsupportedOperationException.class, call);
    }

    void noArithmetic(String what, Call call) {
        refuses(what, ArithmeticException.class, call);
    }

    /** A value of the object is the fraction that is due, written as -3/2. */
    void is(String due, KiloFractions x, int a) {
        answers("value " + a, due, () -> text(x, a));
    }

    void end() {
        System.out.println(wrong == 0 ? "all answers are as due" : wrong + " answers are not as due");
        if (wrong != 0) {
            System.exit(1);
        }
    }

    static Object answerOf(Call call) {
        try {
            return call.answer();
        } catch (RuntimeException e) {
            return "throws." + e.getClass().getSimpleName();
        }
    }

    static String text(KiloFractions x, int a) {
        int sign = x.sign(a);
        String upper = digits(x, a, 0);
        String odd = (sign == 0) == upper.equals("0") ? "" : "with sign " + sign + " ";
        return odd + (sign < 0 ? "-" : "") + upper + "/" + digits(x, a, 1);
    }

    private static String digits(KiloFractions x, int a, int part) {
        StringBuilder text = new StringBuilder();
        for (int i = 0; i <= 60; i++) {
            try {
                text.append(x.digit(a, part, i));
            } catch (IndexOutOfBoundsException e) {
                break;
            }
        }
        return text.reverse().toString();
    }

    /** Makes the whole number 'text', of up to 48 digits, out of pieces of 15; uses few values. */
    static int whole(KiloFractions x, String text) {
        BigInteger n = new BigInteger(text);
        long piece = 1_000_000_000_000_000L;
        BigInteger base = BigInteger.valueOf(piece);
        if (n.abs().compareTo(base) < 0) {
            return x.value(n.longValue(), 1);
        }
        int high = whole(x, n.divide(base).toString());
        int raised = x.times(high, x.value(piece, 1));
        return x.add(raised, x.value(n.remainder(base).longValue(), 1));
    }

    static String nines(int count) {
        return "9".repeat(count);
    }

    /** An object with the values 0/1, 1/1, .. (count - 1)/1. */
    static KiloFractions withValues(int count) {
        KiloFractions x = new KiloFractions();
        for (int i = 0; i < count; i++) {
            x.value(i, 1);
        }
        return x;
    }
}
