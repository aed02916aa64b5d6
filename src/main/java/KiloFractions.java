/**
 * Kilos, shares and lengths as exact fractions of up to 48 digits above and below.
 *
 * <p>All rows that a call works on are made with the object, so that a call makes no objects of its
 * own but the exception that it may throw.
 */
public final class KiloFractions {
    private static final int MOST_VALUES = 100;
    private static final int MOST_SPANS = 30;
    private static final int MOST_WEIGHTS = 20;
    private static final int MOST_DIGITS = 48;
    private static final long BILLION = 1_000_000_000L;

    /** The answer of a call that makes nothing, since its value would be too long. */
    private static final int NOTHING = -1;

    private static final int RULE_NOT_ABOVE = 0;
    private static final int RULE_NOT_BELOW = 1;
    private static final int RULE_NOT_FARTHER = 2;
    private static final int RULE_NOT_NEARER = 3;
    private static final int RULE_NEAREST_HIGHER = 4;
    private static final int RULE_NEAREST_EVEN = 5;
    private static final int RULE_NEAREST_LOWER = 6;

    private static final int UPPER = 0;
    private static final int LOWER = 1;

    /** A limb counts below BASE, so that the product of two of them and a carry fit a long. */
    private static final int BASE = 1_000_000_000;

    private static final int LIMB_DIGITS = 9;

    /** Room for 108 digits: the sum of two fractions has up to 97 before it is brought to lowest terms. */
    private static final int LIMBS = 12;

    /** Room for the 48 digits of a number that is kept. */
    private static final int KEPT_LIMBS = 6;

    /** A number of at most so many limbs fits a long. */
    private static final int SHORT_LIMBS = 2;

    /** Far above the steps that two numbers of 108 digits can need to their common divisor (some 520). */
    private static final int MOST_STEPS = 10_000;

    /** Far above the guesses that one limb of a quotient can need (some five). */
    private static final int MOST_GUESSES = 1_000;

    private static final int[] TENS = {
        1, 10, 100, 1_000, 10_000, 100_000, 1_000_000, 10_000_000, 100_000_000, 1_000_000_000
    };

    private final Shelf values = new Shelf();
    private final int[] lowEnds = new int[MOST_SPANS];
    private final int[] highEnds = new int[MOST_SPANS];
    private int spanCount = 0;
    private final long[] weights = new long[MOST_WEIGHTS];
    private int weightCount = 0;
    private final Fraction carried = new Fraction();

    private final Bench bench = new Bench();
    private final Fraction first = new Fraction();
    private final Fraction second = new Fraction();
    private final Fraction made = new Fraction();
    private final Fraction alsoMade = new Fraction();

    public KiloFractions() {}

    public int value(long above, long below) throws UnsupportedOperationException, ArithmeticException {
        needRoomFor(1);
        if (below == 0) {
            throw new ArithmeticException("the lower number is 0");
        }
        made.become(above, below);
        bench.bringToLowest(made);
        return keepUnlessTooLong();
    }

    public int add(int a, int b) throws IndexOutOfBoundsException, UnsupportedOperationException {
        takeBoth(a, b);
        needRoomFor(1);
        bench.putSum(first, second, second.sign, made);
        bench.bringToLowest(made);
        return keepUnlessTooLong();
    }

    public int less(int a, int b) throws IndexOutOfBoundsException, UnsupportedOperationException {
        takeBoth(a, b);
        needRoomFor(1);
        bench.putSum(first, second, -second.sign, made);
        bench.bringToLowest(made);
        return keepUnlessTooLong();
    }

    public int times(int a, int b) throws IndexOutOfBoundsException, UnsupportedOperationException {
        takeBoth(a, b);
        needRoomFor(1);
        made.becomeProduct(first, second);
        bench.bringToLowest(made);
        return keepUnlessTooLong();
    }

    public int over(int a, int b)
            throws IndexOutOfBoundsException, UnsupportedOperationException, ArithmeticException {
        takeBoth(a, b);
        needRoomFor(1);
        if (second.sign == 0) {
            throw new ArithmeticException("the second value is 0");
        }
        made.becomeQuotient(first, second);
        bench.bringToLowest(made);
        return keepUnlessTooLong();
    }

    public int order(int a, int b) throws IndexOutOfBoundsException {
        takeBoth(a, b);
        return bench.compare(first, second, made);
    }

    public int round(int a, int rule, long unit)
            throws IndexOutOfBoundsException, IllegalArgumentException, UnsupportedOperationException {
        needValue(a);
        if (rule < RULE_NOT_ABOVE || rule > RULE_NEAREST_LOWER) {
            throw new IndexOutOfBoundsException("no such rule");
        }
        if (unit < 1 || unit > BILLION) {
            throw new IllegalArgumentException("the unit is not 1 to 1,000,000,000");
        }
        needRoomFor(1);
        values.fetch(a, first);
        bench.putRounded(first, rule, unit, made);
        bench.bringToLowest(made);
        return keepUnlessTooLong();
    }

    public int span(int low, int high) throws IndexOutOfBoundsException, UnsupportedOperationException {
        takeBoth(low, high);
        if (bench.compare(first, second, made) > 0) {
            throw new UnsupportedOperationException("the lower end is above the higher");
        }
        needRoomForSpan();
        return keepSpan(low, high);
    }

    public int spanTimes(int s, int a) throws IndexOutOfBoundsException, UnsupportedOperationException {
        needSpan(s);
        needValue(a);
        needRoomForSpan();
        needRoomFor(2);
        values.fetch(a, second);
        boolean turned = second.sign < 0;
        values.fetch(turned ? highEnds[s] : lowEnds[s], first);
        made.becomeProduct(first, second);
        bench.bringToLowest(made);
        values.fetch(turned ? lowEnds[s] : highEnds[s], first);
        alsoMade.becomeProduct(first, second);
        bench.bringToLowest(alsoMade);
        if (made.isTooLong() || alsoMade.isTooLong()) {
            return NOTHING;
        }
        int low = values.keep(made);
        int high = values.keep(alsoMade);
        return keepSpan(low, high);
    }

    public int end(int s, int which) throws IndexOutOfBoundsException {
        needSpan(s);
        if (which != 0 && which != 1) {
            throw new IndexOutOfBoundsException("no such end");
        }
        return which == 0 ? lowEnds[s] : highEnds[s];
    }

    public boolean within(int s, int a) throws IndexOutOfBoundsException {
        needSpan(s);
        needValue(a);
        values.fetch(a, second);
        values.fetch(lowEnds[s], first);
        if (bench.compare(first, second, made) > 0) {
            return false;
        }
        values.fetch(highEnds[s], first);
        return bench.compare(first, second, made) >= 0;
    }

    public int weight(long w) throws IllegalArgumentException, UnsupportedOperationException {
        if (w < 0 || w > BILLION) {
            throw new IllegalArgumentException("the weight is not 0 to 1,000,000,000");
        }
        if (weightCount >= MOST_WEIGHTS) {
            throw new UnsupportedOperationException("no room for a weight");
        }
        weights[weightCount] = w;
        weightCount++;
        return weightCount;
    }

    public long share(long whole, int k)
            throws IndexOutOfBoundsException, IllegalArgumentException, ArithmeticException {
        if (k < 0 || k >= weightCount) {
            throw new IndexOutOfBoundsException("no such weight");
        }
        if (whole < 0 || whole > BILLION) {
            throw new IllegalArgumentException("the whole is not 0 to 1,000,000,000");
        }
        long sum = sumOfWeights();
        if (sum == 0) {
            throw new ArithmeticException("all weights are 0");
        }
        long product = whole * weights[k];
        return product / sum + (getsOneMore(whole, sum, k) ? 1 : 0);
    }

    public int giving(int a) throws IndexOutOfBoundsException, UnsupportedOperationException {
        needValue(a);
        needRoomFor(1);
        values.fetch(a, first);
        bench.putSum(first, carried, carried.sign, made);
        bench.bringToLowest(made);
        bench.splitOffRest(made, alsoMade);
        if (made.isTooLong() || alsoMade.isTooLong()) {
            return NOTHING;
        }
        carried.becomeCopy(alsoMade);
        return values.keep(made);
    }

    public int rest() throws UnsupportedOperationException {
        needRoomFor(1);
        return values.keep(carried);
    }

    public int sign(int a) throws IndexOutOfBoundsException {
        needValue(a);
        values.fetch(a, first);
        return first.sign;
    }

    public int digit(int a, int part, int i) throws IndexOutOfBoundsException {
        needValue(a);
        if (part != UPPER && part != LOWER) {
            throw new IndexOutOfBoundsException("no such part");
        }
        values.fetch(a, first);
        Whole number = part == UPPER ? first.upper : first.lower;
        if (i < 0 || i >= number.countDigits()) {
            throw new IndexOutOfBoundsException("no such digit");
        }
        return number.digitAt(i);
    }

    private void needValue(int a) {
        if (!values.has(a)) {
            throw new IndexOutOfBoundsException("no such value");
        }
    }

    private void needSpan(int s) {
        if (s < 0 || s >= spanCount) {
            throw new IndexOutOfBoundsException("no such span");
        }
    }

    private void needRoomFor(int newValues) {
        if (!values.hasRoomFor(newValues)) {
            throw new UnsupportedOperationException("no room for a value");
        }
    }

    private void needRoomForSpan() {
        if (spanCount >= MOST_SPANS) {
            throw new UnsupportedOperationException("no room for a span");
        }
    }

    private void takeBoth(int a, int b) {
        needValue(a);
        needValue(b);
        values.fetch(a, first);
        values.fetch(b, second);
    }

    private int keepUnlessTooLong() {
        return made.isTooLong() ? NOTHING : values.keep(made);
    }

    private int keepSpan(int low, int high) {
        lowEnds[spanCount] = low;
        highEnds[spanCount] = high;
        spanCount++;
        return spanCount - 1;
    }

    private long sumOfWeights() {
        long sum = 0;
        for (int i = 0; i < weightCount; i++) {
            sum += weights[i];
        }
        return sum;
    }

    /** Whether fewer weights come before weight k than ones are left over; sum is above 0. */
    private boolean getsOneMore(long whole, long sum, int k) {
        long own = whole * weights[k] % sum;
        long left = whole;
        int before = 0;
        for (int i = 0; i < weightCount; i++) {
            long product = whole * weights[i];
            long remainder = product % sum;
            left -= product / sum;
            if (remainder > own || (remainder == own && i < k)) {
                before++;
            }
        }
        return before < left;
    }

    /** A whole number not below 0: the lowest limb comes first, and those from 'used' on are 0. */
    private static final class Whole {
        private final int[] limbs = new int[LIMBS];
        private int used = 0;

        boolean isZero() {
            return used == 0;
        }

        boolean isOne() {
            return used == 1 && limbs[0] == 1;
        }

        boolean isOdd() {
            return limbs[0] % 2 != 0;
        }

        boolean isShort() {
            return used <= SHORT_LIMBS;
        }

        /** The number itself, if it is short. */
        long asLong() {
            return limbAt(1) * BASE + limbAt(0);
        }

        /** Beside the row there are zeros, so that a caller may look at limbs next to the ends. */
        long limbAt(int i) {
            return i >= 0 && i < LIMBS ? limbs[i] : 0;
        }

        int countDigits() {
            if (used == 0) {
                return 1;
            }
            int top = limbs[used - 1];
            int digits = (used - 1) * LIMB_DIGITS;
            for (int ten : TENS) {
                digits += top >= ten ? 1 : 0;
            }
            return digits;
        }

        int digitAt(int i) {
            long left = limbAt(i / LIMB_DIGITS);
            for (int k = i % LIMB_DIGITS; k > 0; k--) {
                left /= 10;
            }
            return (int) (left % 10);
        }

        /** Compares this over BASE^shift, rounded down, with another number: -1, 0 or 1. */
        int compareWith(Whole other, int shift) {
            if (used != other.used + shift) {
                return used < other.used + shift ? -1 : 1;
            }
            for (int i = other.used - 1; i >= 0; i--) {
                long mine = limbAt(i + shift);
                if (mine != other.limbs[i]) {
                    return mine < other.limbs[i] ? -1 : 1;
                }
            }
            return 0;
        }

        void becomeZero() {
            for (int i = 0; i < LIMBS; i++) {
                limbs[i] = 0;
            }
            used = 0;
        }

        /** Takes n without its sign; it counts below 0, where Long.MIN_VALUE has its like too. */
        void becomeSizeOf(long n) {
            becomeZero();
            long left = n < 0 ? n : -n;
            for (int i = 0; i < LIMBS && left != 0; i++) {
                limbs[i] = (int) -(left % BASE);
                left /= BASE;
            }
            dropZerosFrom(LIMBS);
        }

        void becomeCopy(Whole other) {
            for (int i = 0; i < LIMBS; i++) {
                limbs[i] = other.limbs[i];
            }
            used = other.used;
        }

        /** Takes a * b, which are other objects than this. */
        void becomeProduct(Whole a, Whole b) {
            becomeZero();
            for (int i = 0; i < a.used; i++) {
                long carry = 0;
                for (int j = 0; i + j < LIMBS && (j < b.used || carry != 0); j++) {
                    carry += limbs[i + j] + a.limbAt(i) * b.limbAt(j);
                    limbs[i + j] = (int) (carry % BASE);
                    carry /= BASE;
                }
            }
            dropZerosFrom(LIMBS);
        }

        void increaseBy(Whole other) {
            int carry = 0;
            for (int i = 0; i < LIMBS; i++) {
                int sum = limbs[i] + other.limbs[i] + carry;
                carry = sum >= BASE ? 1 : 0;
                limbs[i] = carry == 1 ? sum - BASE : sum;
            }
            dropZerosFrom(LIMBS);
        }

        /** Takes other * often * BASE^shift away, which is not above this; often is below BASE. */
        void decreaseBy(Whole other, long often, int shift) {
            long carry = 0;
            for (int i = 0; i + shift < LIMBS && (i < other.used || carry != 0); i++) {
                carry += other.limbAt(i) * often;
                int limb = limbs[i + shift] - (int) (carry % BASE);
                carry /= BASE;
                if (limb < 0) {
                    limb += BASE;
                    carry++;
                }
                limbs[i + shift] = limb;
            }
            dropZerosFrom(used);
        }

        /** Takes the remainder by a divisor; 0 as a divisor leaves it as it is. */
        void becomeRemainder(Whole divisor) {
            if (divisor.isZero()) {
                return;
            }
            for (int shift = used - divisor.used; shift >= 0; shift--) {
                takeOut(divisor, shift);
            }
        }

        /** Takes the remainder likewise and hands out the quotient, an object apart from the two. */
        void divideBy(Whole divisor, Whole quotient) {
            quotient.becomeZero();
            if (divisor.isZero()) {
                return;
            }
            for (int shift = used - divisor.used; shift >= 0; shift--) {
                quotient.limbs[shift] = (int) takeOut(divisor, shift);
            }
            quotient.dropZerosFrom(LIMBS);
        }

        /**
         * Takes divisor * BASE^shift away as often as it goes, and answers how often. The limbs above
         * are done, so it is fewer than BASE times.
         */
        private long takeOut(Whole divisor, int shift) {
            long often = 0;
            for (int i = 0; i < MOST_GUESSES && compareWith(divisor, shift) >= 0; i++) {
                long guess = Math.max(1, guessOften(divisor, shift));
                decreaseBy(divisor, guess, shift);
                often += guess;
            }
            return often;
        }

        /**
         * How often divisor * BASE^shift goes into this, by the leading digits: the divisor's nine
         * first ones and one more against this rounded down, so never too often.
         */
        private long guessOften(Whole divisor, int shift) {
            int top = divisor.used - 1;
            long scale = tenAbove(divisor.limbAt(top));
            long unit = BASE / scale;
            long below = divisor.limbAt(top) * unit + divisor.limbAt(top - 1) / scale + 1;
            long above = limbAt(top + shift + 1) * unit * BASE
                    + limbAt(top + shift) * unit
                    + limbAt(top + shift - 1) / scale;
            return above / below;
        }

        private static long tenAbove(long limb) {
            for (int ten : TENS) {
                if (ten > limb) {
                    return ten;
                }
            }
            return BASE;
        }

        private void dropZerosFrom(int top) {
            used = top;
            while (used > 0 && limbs[used - 1] == 0) {
                used--;
            }
        }
    }

    /** A fraction: its sign, and its two numbers without sign; 0 over 1 at first. */
    private static final class Fraction {
        private int sign = 0;
        private final Whole upper = new Whole();
        private final Whole lower = new Whole();

        Fraction() {
            lower.becomeSizeOf(1);
        }

        boolean isTooLong() {
            return upper.countDigits() > MOST_DIGITS || lower.countDigits() > MOST_DIGITS;
        }

        void become(long above, long below) {
            sign = Long.compare(above, 0) * Long.compare(below, 0);
            upper.becomeSizeOf(above);
            lower.becomeSizeOf(below);
        }

        void becomeCopy(Fraction other) {
            sign = other.sign;
            upper.becomeCopy(other.upper);
            lower.becomeCopy(other.lower);
        }

        void becomeProduct(Fraction a, Fraction b) {
            sign = a.sign * b.sign;
            upper.becomeProduct(a.upper, b.upper);
            lower.becomeProduct(a.lower, b.lower);
        }

        void becomeQuotient(Fraction a, Fraction b) {
            sign = a.sign * b.sign;
            upper.becomeProduct(a.upper, b.lower);
            lower.becomeProduct(a.lower, b.upper);
        }
    }

    /** The values by their numbers, in one row: the upper limbs of a value, then its lower ones. */
    private static final class Shelf {
        private final int[] limbs = new int[MOST_VALUES * 2 * KEPT_LIMBS];
        private final int[] signs = new int[MOST_VALUES];
        private int count = 0;

        boolean has(int a) {
            return a >= 0 && a < count;
        }

        boolean hasRoomFor(int newValues) {
            return count + newValues <= MOST_VALUES;
        }

        /** Copies value a, which there is. */
        void fetch(int a, Fraction into) {
            into.sign = signs[a];
            fetchNumber(2 * a * KEPT_LIMBS, into.upper);
            fetchNumber((2 * a + 1) * KEPT_LIMBS, into.lower);
        }

        /** Keeps a fraction that is not too long as the next value, for which there is room. */
        int keep(Fraction fraction) {
            int a = count;
            signs[a] = fraction.sign;
            keepNumber(fraction.upper, 2 * a * KEPT_LIMBS);
            keepNumber(fraction.lower, (2 * a + 1) * KEPT_LIMBS);
            count++;
            return a;
        }

        private void fetchNumber(int from, Whole into) {
            into.becomeZero();
            for (int i = 0; i < KEPT_LIMBS; i++) {
                into.limbs[i] = limbs[from + i];
            }
            into.dropZerosFrom(KEPT_LIMBS);
        }

        private void keepNumber(Whole number, int to) {
            for (int i = 0; i < KEPT_LIMBS; i++) {
                limbs[to + i] = number.limbs[i];
            }
        }
    }

    /** The steps that need room beside the fractions that go in and come out. */
    private static final class Bench {
        private final Whole left = new Whole();
        private final Whole right = new Whole();
        private final Whole quotient = new Whole();

        /** Puts a and b together, b with the sign that is given, not yet in lowest terms. */
        void putSum(Fraction a, Fraction b, int signOfB, Fraction into) {
            into.upper.becomeProduct(a.upper, b.lower);
            right.becomeProduct(b.upper, a.lower);
            into.lower.becomeProduct(a.lower, b.lower);
            if (a.sign * signOfB >= 0) {
                into.upper.increaseBy(right);
                into.sign = a.sign != 0 ? a.sign : signOfB;
                return;
            }
            int side = into.upper.compareWith(right, 0);
            if (side >= 0) {
                into.upper.decreaseBy(right, 1, 0);
            } else {
                right.decreaseBy(into.upper, 1, 0);
                into.upper.becomeCopy(right);
            }
            into.sign = a.sign * side;
        }

        /** -1, 0 or 1: a is below, the same as, above b. */
        int compare(Fraction a, Fraction b, Fraction difference) {
            putSum(a, b, -b.sign, difference);
            return difference.sign;
        }

        void putRounded(Fraction a, int rule, long unit, Fraction into) {
            right.becomeSizeOf(unit);
            left.becomeProduct(a.upper, right);
            left.divideBy(a.lower, into.upper);
            if (!left.isZero() && goesFromZero(a, rule, into.upper.isOdd())) {
                right.becomeSizeOf(1);
                into.upper.increaseBy(right);
            }
            into.lower.becomeSizeOf(unit);
            into.sign = into.upper.isZero() ? 0 : a.sign;
        }

        /** Whether a, whose remainder stands in 'left', is rounded to the side that is farther from 0. */
        private boolean goesFromZero(Fraction a, int rule, boolean nearIsOdd) {
            switch (rule) {
                case RULE_NOT_ABOVE:
                    return a.sign < 0;
                case RULE_NOT_BELOW:
                    return a.sign > 0;
                case RULE_NOT_FARTHER:
                    return false;
                case RULE_NOT_NEARER:
                    return true;
                default:
                    return isNearerFromZero(a, rule, nearIsOdd);
            }
        }

        private boolean isNearerFromZero(Fraction a, int rule, boolean nearIsOdd) {
            right.becomeCopy(a.lower);
            right.decreaseBy(left, 1, 0);
            int side = left.compareWith(right, 0);
            if (side != 0) {
                return side > 0;
            }
            if (rule == RULE_NEAREST_EVEN) {
                return nearIsOdd;
            }
            return rule == RULE_NEAREST_HIGHER ? a.sign > 0 : a.sign < 0;
        }

        /** Brings a, in lowest terms, down to the whole number not above it, and hands out what is left. */
        void splitOffRest(Fraction a, Fraction rest) {
            rest.becomeCopy(a);
            rest.upper.divideBy(rest.lower, a.upper);
            if (a.sign < 0 && !rest.upper.isZero()) {
                right.becomeCopy(rest.lower);
                right.decreaseBy(rest.upper, 1, 0);
                rest.upper.becomeCopy(right);
                right.becomeSizeOf(1);
                a.upper.increaseBy(right);
            }
            rest.sign = rest.upper.isZero() ? 0 : 1;
            a.lower.becomeSizeOf(1);
            a.sign = a.upper.isZero() ? 0 : a.sign;
        }

        void bringToLowest(Fraction fraction) {
            left.becomeCopy(fraction.lower);
            right.becomeCopy(fraction.upper);
            Whole divisor = commonDivisor();
            if (!divisor.isOne()) {
                divideOut(fraction.upper, divisor);
                divideOut(fraction.lower, divisor);
            }
        }

        private void divideOut(Whole number, Whole divisor) {
            number.divideBy(divisor, quotient);
            number.becomeCopy(quotient);
        }

        /** The greatest common divisor of 'left' and 'right', which are used up; 'left' is above 0. */
        private Whole commonDivisor() {
            Whole big = left;
            Whole small = right;
            for (int i = 0; i < MOST_STEPS && !small.isShort(); i++) {
                big.becomeRemainder(small);
                Whole turn = big;
                big = small;
                small = turn;
            }
            if (small.isZero()) {
                return big;
            }
            big.becomeRemainder(small);
            small.becomeSizeOf(commonDivisorOf(small.asLong(), big.asLong()));
            return small;
        }

        private static long commonDivisorOf(long a, long b) {
            long big = a;
            long small = b;
            for (int i = 0; i < MOST_STEPS && small != 0; i++) {
                long remainder = big % small;
                big = small;
                small = remainder;
            }
            return big;
        }
    }
}
