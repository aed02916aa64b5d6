import java.math.BigInteger;

/** Counts and prints the answers of a test that are not as due, with the sentence that they break. */
final class Check {
    /** A call whose answer is looked at. */
    interface Call {
        Object answer();
    }

    /** Numbers that no value, span, weight, rule, end, part or digit has. */
    static final int[] NEVER = {-1, 100, Integer.MIN_VALUE, Integer.MAX_VALUE, -100, 1 << 30};

    /** 10^24: two numbers about it have a product of 48 or of 49 digits. */
    private static final BigInteger TEN_24 = BigInteger.TEN.pow(24);

    private static final int MOST_VALUES = 100;

    private int wrong = 0;
    private int tests = 0;
    private String sentence = "";

    /** A test of its own begins, of this sentence of the document; ' .. ' stands for words left out. */
    void sentence(String where, String words) {
        tests++;
        sentence = where + ", \"" + words + "\": ";
    }

    /** The call answers what is due. */
    void answers(String what, Object due, Call call) {
        Object got = answerOf(call);
        if (!got.equals(due)) {
            wrong++;
            System.out.println(sentence + what + " answered " + got + ", due is " + due);
        }
    }

    /** The call throws an exception of the very class, as a 'throw' of the program makes it. */
    void refuses(String what, Class<? extends RuntimeException> due, Call call) {
        answers(what, "throws." + due.getSimpleName(), call);
    }

    void noIndex(String what, Call call) {
        refuses(what, IndexOutOfBoundsException.class, call);
    }

    void noRange(String what, Call call) {
        refuses(what, IllegalArgumentException.class, call);
    }

    void noMeaning(String what, Call call) {
        refuses(what, UnsupportedOperationException.class, call);
    }

    void noArithmetic(String what, Call call) {
        refuses(what, ArithmeticException.class, call);
    }

    /** A value of the object is the fraction that is due, written as -3/2. */
    void is(String due, KiloFractions x, int a) {
        answers("value " + a, due, () -> text(x, a));
    }

    /** The call makes value 'number', which is the fraction that is due. */
    void makes(String what, int number, String due, KiloFractions x, Call call) {
        answers(what, number, call);
        is(due, x, number);
    }

    /** There are 'count' values, no more. */
    void hasValues(int count, KiloFractions x) {
        if (count > 0) {
            answers("whether value " + (count - 1) + " is there", false,
                    () -> answerOf(() -> x.sign(count - 1)) instanceof String);
        }
        noIndex("sign(" + count + ")", () -> x.sign(count));
    }

    void end() {
        String told = tests == 0 ? "" : tests + " tests, ";
        System.out.println(told + (wrong == 0 ? "all answers are as due" : wrong + " answers are not as due"));
        if (wrong != 0) {
            System.exit(1);
        }
    }

    static Object answerOf(Call call) {
        try {
            return call.answer();
        } catch (RuntimeException e) {
            return "throws." + e.getClass().getSimpleName() + (isOfTheMachine(e) ? " of the machine" : "");
        }
    }

    /** The machine's own refusal of a division bears the class that a 'throw' of the program has. */
    private static boolean isOfTheMachine(RuntimeException e) {
        return "/ by zero".equals(e.getMessage());
    }

    static String text(KiloFractions x, int a) {
        int sign = x.sign(a);
        String upper = digits(x, a, 0);
        String odd = (sign == 0) == upper.equals("0") ? "" : "with sign " + sign + " ";
        return odd + (sign < 0 ? "-" : "") + upper + "/" + digits(x, a, 1);
    }

    private static String digits(KiloFractions x, int a, int part) {
        StringBuilder text = new StringBuilder();
        for (int i = 0; i <= 60; i++) {
            try {
                text.append(x.digit(a, part, i));
            } catch (IndexOutOfBoundsException e) {
                break;
            }
        }
        return text.reverse().toString();
    }

    /** Makes the whole number 'text', of up to 48 digits, out of pieces of 15; uses few values. */
    static int whole(KiloFractions x, String text) {
        BigInteger n = new BigInteger(text);
        long piece = 1_000_000_000_000_000L;
        BigInteger base = BigInteger.valueOf(piece);
        if (n.abs().compareTo(base) < 0) {
            return x.value(n.longValue(), 1);
        }
        int high = whole(x, n.divide(base).toString());
        int raised = x.times(high, x.value(piece, 1));
        return x.add(raised, x.value(n.remainder(base).longValue(), 1));
    }

    /** Makes 1 over the whole number 'text'. */
    static int under(KiloFractions x, String text) {
        int below = whole(x, text);
        return x.over(x.value(1, 1), below);
    }

    static String nines(int count) {
        return "9".repeat(count);
    }

    static String zeros(int count) {
        return "0".repeat(count);
    }

    /** 10^24 and n. */
    static String aboutTen24(long n) {
        return TEN_24.add(BigInteger.valueOf(n)).toString();
    }

    /** (10^24 + m) * (10^24 + n). */
    static String productAboutTen24(long m, long n) {
        return new BigInteger(aboutTen24(m)).multiply(new BigInteger(aboutTen24(n))).toString();
    }

    /** An object with the values 0/1, 1/1, .. (count - 1)/1. */
    static KiloFractions withValues(int count) {
        KiloFractions x = new KiloFractions();
        for (int i = 0; i < count; i++) {
            x.value(i, 1);
        }
        return x;
    }

    /** Makes 1/1 until there are 'count' values; there are fewer. */
    static void fill(KiloFractions x, int count) {
        int last = x.value(1, 1);
        for (int i = 0; i < MOST_VALUES && last < count - 1; i++) {
            last = x.value(1, 1);
        }
    }
}
