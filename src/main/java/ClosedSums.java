/**
 * Sums of terms whose ratio is rational, modulo 32003, after Gosper: the ratio is split,
 * the split gives an equation for a polynomial, and its solution gives the sum.
 */
public final class ClosedSums {
    private static final int MODULUS = 32003;
    private static final int LAST_POWER = 4;
    private static final int LAST_SHIFT = 8;
    private static final int LAST_DEGREE = 20;
    private static final int LAST_PLACE = 60;

    private final Polynomial ratioTop = new Polynomial();
    private final Polynomial ratioBottom = new Polynomial();
    private final Division division = new Division();
    private final RatioSplit parts = new RatioSplit();
    private final Equation equation = new Equation();
    private final Fraction fraction = new Fraction();
    private final Progress progress = new Progress();

    public ClosedSums() {
        ratioTop.becomeNumber(1);
        ratioBottom.becomeNumber(1);
    }

    public boolean put(boolean top, int power, long v) throws IndexOutOfBoundsException {
        requirePower(power);
        Polynomial side = side(top);
        int number = (int) Math.floorMod(v, (long) MODULUS);
        if (side.number(power) == number) {
            return false;
        }
        side.setNumber(power, number);
        forget();
        return true;
    }

    public int at(boolean top, int power) throws IndexOutOfBoundsException {
        requirePower(power);
        return side(top).number(power);
    }

    public int found(int h) throws IllegalStateException, IllegalArgumentException {
        requireRatio();
        if (h < 0 || h > LAST_SHIFT) {
            throw new IllegalArgumentException("no such shift");
        }
        parts.renew(ratioTop, ratioBottom, division);
        return parts.commonDegree(h);
    }

    public int degree(int which) throws IllegalStateException, IllegalArgumentException {
        requireRatio();
        requirePart(which);
        parts.renew(ratioTop, ratioBottom, division);
        return parts.part(which).highest();
    }

    public int split(int which, int power) throws IllegalStateException, IllegalArgumentException {
        requireRatio();
        requirePart(which);
        parts.renew(ratioTop, ratioBottom, division);
        return parts.part(which).number(power);
    }

    public int run() throws IllegalStateException {
        requireRatio();
        parts.renew(ratioTop, ratioBottom, division);
        equation.renew(parts);
        return equation.leastDegree();
    }

    public int answer(int power) throws IllegalStateException {
        requireAnswer();
        return equation.solution().number(power);
    }

    public int closed(boolean top, int power) throws IllegalStateException {
        requireAnswer();
        fraction.renew(parts, equation, division);
        return (top ? fraction.top() : fraction.bottom()).number(power);
    }

    public int value(long n) throws IllegalStateException {
        requireAnswer();
        fraction.renew(parts, equation, division);
        return fraction.valueAt((int) Math.floorMod(n, (long) MODULUS));
    }

    public int term(int n) throws IndexOutOfBoundsException, IllegalStateException {
        requirePlace(n);
        requireTerm(n);
        return progress.termAt(n);
    }

    public int sum(int n) throws IndexOutOfBoundsException, IllegalStateException {
        requirePlace(n);
        // The last term that is added stands at n - 1, so B at n - 1 does not matter.
        requireTerm(n - 1);
        return progress.sumBelow(n);
    }

    public void shift(int k) {
        int distance = Math.floorMod(k, MODULUS);
        ratioTop.moveBy(distance);
        ratioBottom.moveBy(distance);
        forget();
    }

    public void clear() {
        ratioTop.becomeNumber(1);
        ratioBottom.becomeNumber(1);
        forget();
    }

    private Polynomial side(boolean top) {
        return top ? ratioTop : ratioBottom;
    }

    private void forget() {
        parts.forget();
        equation.forget();
        fraction.forget();
        progress.forget();
    }

    private void requirePower(int power) {
        if (power < 0 || power > LAST_POWER) {
            throw new IndexOutOfBoundsException("no such power");
        }
    }

    private void requirePlace(int n) {
        if (n < 0 || n > LAST_PLACE) {
            throw new IndexOutOfBoundsException("no such place");
        }
    }

    private void requirePart(int which) {
        if (which < RatioSplit.TOP || which > RatioSplit.EXTRA) {
            throw new IllegalArgumentException("no such part");
        }
    }

    private void requireRatio() {
        if (ratioTop.isZero() || ratioBottom.isZero()) {
            throw new IllegalStateException("a side of the ratio is 0");
        }
    }

    private void requireAnswer() {
        requireRatio();
        parts.renew(ratioTop, ratioBottom, division);
        equation.renew(parts);
        if (equation.leastDegree() < 0) {
            throw new IllegalStateException("no answer");
        }
    }

    private void requireTerm(int n) {
        if (!progress.reaches(n, ratioTop, ratioBottom)) {
            throw new IllegalStateException("the term ends earlier");
        }
    }

    private static int negative(int number) {
        return number == 0 ? 0 : MODULUS - number;
    }

    /** By Fermat: the power MODULUS - 2. Of 0 it is 0, so that nothing is ever divided by 0. */
    private static int inverse(int number) {
        int result = 1;
        int square = number;
        for (int exponent = MODULUS - 2; exponent > 0; exponent >>= 1) {
            if ((exponent & 1) == 1) {
                result = result * square % MODULUS;
            }
            square = square * square % MODULUS;
        }
        return result;
    }

    /**
     * A polynomial that is changed in place, so that a call makes no objects. Two numbers'
     * product and a third number stay below 2^31, so that int is wide enough everywhere.
     */
    private static final class Polynomial {
        // c is the longest one: at most four roots, each moved up to eight times.
        static final int ROOM = LAST_POWER * LAST_SHIFT + 1;

        private final int[] numbers = new int[ROOM];
        private int highest = -1;

        /** The highest power that is not 0; -1 if there is none. */
        int highest() {
            return highest;
        }

        boolean isZero() {
            return highest < 0;
        }

        int number(int power) {
            return power < 0 || power >= numbers.length ? 0 : numbers[power];
        }

        int leading() {
            return number(highest);
        }

        void setNumber(int power, int number) {
            if (power < 0 || power >= numbers.length) {
                return;
            }
            numbers[power] = number;
            settle(Math.max(power, highest));
        }

        void becomeNumber(int number) {
            for (int power = 0; power < numbers.length; power++) {
                numbers[power] = 0;
            }
            numbers[0] = number;
            highest = number == 0 ? -1 : 0;
        }

        void copyFrom(Polynomial other) {
            for (int power = 0; power < numbers.length; power++) {
                numbers[power] = other.number(power);
            }
            highest = other.highest;
        }

        void scaleBy(int factor) {
            for (int power = 0; power < numbers.length && power <= highest; power++) {
                numbers[power] = numbers[power] * factor % MODULUS;
            }
            settle(highest);
        }

        /** Adds factor times other times n to the power of offset; other is not this one. */
        void addMultiple(int factor, Polynomial other, int offset) {
            int end = other.highest + offset;
            for (int power = Math.max(offset, 0); power < numbers.length && power <= end; power++) {
                int added = factor * other.number(power - offset);
                numbers[power] = (numbers[power] + added) % MODULUS;
            }
            settle(Math.max(highest, end));
        }

        /** From the highest power down, so that the numbers still needed are the old ones. */
        void multiplyBy(Polynomial other) {
            int end = isZero() || other.isZero() ? highest : highest + other.highest;
            for (int power = Math.min(end, numbers.length - 1); power >= 0; power--) {
                int total = 0;
                for (int i = 0; i <= other.highest && i <= power; i++) {
                    total = (total + number(power - i) * other.number(i)) % MODULUS;
                }
                numbers[power] = total;
            }
            settle(end);
        }

        /** Puts n + distance in place of n, by Horner's rule; distance is 0 .. MODULUS - 1. */
        void moveBy(int distance) {
            for (int start = 0; start < highest; start++) {
                for (int power = Math.min(highest, numbers.length - 1) - 1; power >= start; power--) {
                    numbers[power] = (numbers[power] + distance * number(power + 1)) % MODULUS;
                }
            }
        }

        /** Keeps the rest and gives the quotient; the divisor 0 leaves all as it is. */
        void divideBy(Polynomial divisor, Polynomial quotient) {
            quotient.becomeNumber(0);
            if (divisor.isZero()) {
                return;
            }
            int unit = inverse(divisor.leading());
            for (int power = highest; power >= divisor.highest; power--) {
                int factor = number(power) * unit % MODULUS;
                if (factor != 0) {
                    int offset = power - divisor.highest;
                    quotient.setNumber(offset, factor);
                    addMultiple(negative(factor), divisor, offset);
                }
            }
        }

        int valueAt(int place) {
            int result = 0;
            for (int power = highest; power >= 0; power--) {
                result = (result * place + number(power)) % MODULUS;
            }
            return result;
        }

        private void settle(int from) {
            int power = from < numbers.length ? from : numbers.length - 1;
            while (power >= 0 && numbers[power] == 0) {
                power--;
            }
            highest = power;
        }
    }

    /** The rows that Euclid's rule and divisions need. */
    private static final class Division {
        private final Polynomial first = new Polynomial();
        private final Polynomial second = new Polynomial();
        private final Polynomial quotient = new Polynomial();
        private final Polynomial common = new Polynomial();

        /** The monic common divisor; it stays as it is until this is called again. */
        Polynomial commonDivisor(Polynomial one, Polynomial other) {
            first.copyFrom(one);
            second.copyFrom(other);
            Polynomial larger = first;
            Polynomial smaller = second;
            // Each round but the first lowers a degree, so the bound is never reached.
            for (int round = 0; round < 2 * Polynomial.ROOM && !smaller.isZero(); round++) {
                larger.divideBy(smaller, quotient);
                Polynomial rest = larger;
                larger = smaller;
                smaller = rest;
            }
            common.copyFrom(larger);
            common.scaleBy(inverse(common.leading()));
            return common;
        }

        /** For a divisor that leaves no rest. */
        void divideOut(Polynomial target, Polynomial divisor) {
            target.divideBy(divisor, quotient);
            target.copyFrom(quotient);
        }
    }

    /** The parts a, b and c of the ratio. */
    private static final class RatioSplit {
        static final int TOP = 0;
        static final int BOTTOM = 1;
        static final int EXTRA = 2;

        private final Polynomial top = new Polynomial();
        private final Polynomial bottom = new Polynomial();
        private final Polynomial extra = new Polynomial();
        private final Polynomial moved = new Polynomial();
        private final int[] commonDegrees = new int[LAST_SHIFT + 1];
        private boolean known = false;

        void forget() {
            known = false;
        }

        /** For a ratio of which neither side is 0. */
        void renew(Polynomial ratioTop, Polynomial ratioBottom, Division division) {
            if (known) {
                return;
            }
            known = true;
            top.copyFrom(ratioTop);
            bottom.copyFrom(ratioBottom);
            extra.becomeNumber(1);
            for (int h = 0; h < commonDegrees.length; h++) {
                moved.copyFrom(bottom);
                moved.moveBy(h);
                Polynomial common = division.commonDivisor(top, moved);
                commonDegrees[h] = common.highest();
                division.divideOut(top, common);
                for (int step = 1; step <= h; step++) {
                    common.moveBy(MODULUS - 1);
                    extra.multiplyBy(common);
                }
                // It has been moved h places back by now, just as the bottom needs it.
                division.divideOut(bottom, common);
            }
        }

        int commonDegree(int h) {
            return h < 0 || h >= commonDegrees.length ? 0 : commonDegrees[h];
        }

        Polynomial part(int which) {
            if (which == TOP) {
                return top;
            }
            return which == BOTTOM ? bottom : extra;
        }
    }

    /** A polynomial, and what comes of it if it is put for x into the equation's left side. */
    private static final class Pair {
        final Polynomial origin = new Polynomial();
        final Polynomial image = new Polynomial();
    }

    /**
     * The equation for x, solved power by power: the images of 1, n, n^2 .. are brought to
     * different highest powers, and c is lowered by them until nothing is left of it.
     */
    private static final class Equation {
        private final Pair[] pairs = new Pair[LAST_DEGREE + 1];
        // Where an image's highest power is that index; null where none is.
        private final Pair[] byHighest = new Pair[Polynomial.ROOM];
        // Its image is c plus the image of its origin, so the answer is less its origin.
        private final Pair remaining = new Pair();
        private final Polynomial bottomBefore = new Polynomial();
        private final Polynomial topGrown = new Polynomial();
        private final Polynomial placeAfter = new Polynomial();
        private int leastDegree = -1;
        private boolean known = false;

        Equation() {
            for (int power = 0; power < pairs.length; power++) {
                pairs[power] = new Pair();
            }
            placeAfter.setNumber(0, 1);
            placeAfter.setNumber(1, 1);
        }

        void forget() {
            known = false;
        }

        int leastDegree() {
            return leastDegree;
        }

        Polynomial solution() {
            return remaining.origin;
        }

        void renew(RatioSplit parts) {
            if (known) {
                return;
            }
            known = true;
            start(parts);
            leastDegree = solve();
            remaining.origin.scaleBy(MODULUS - 1);
        }

        private void start(RatioSplit parts) {
            for (int power = 0; power < byHighest.length; power++) {
                byHighest[power] = null;
            }
            remaining.image.copyFrom(parts.part(RatioSplit.EXTRA));
            remaining.origin.becomeNumber(0);
            bottomBefore.copyFrom(parts.part(RatioSplit.BOTTOM));
            bottomBefore.moveBy(MODULUS - 1);
            topGrown.copyFrom(parts.part(RatioSplit.TOP));
        }

        private int solve() {
            for (int power = 0; power < pairs.length; power++) {
                Pair pair = pairs[power];
                fill(pair, power);
                lower(pair);
                keep(pair);
                lower(remaining);
                if (remaining.image.isZero()) {
                    return power;
                }
            }
            return -1;
        }

        /** The image of n^power is a times (n + 1)^power less b at n - 1 times n^power. */
        private void fill(Pair pair, int power) {
            pair.origin.becomeNumber(0);
            pair.origin.setNumber(power, 1);
            pair.image.copyFrom(topGrown);
            pair.image.addMultiple(MODULUS - 1, bottomBefore, power);
            topGrown.multiplyBy(placeAfter);
        }

        /** Takes away the highest power as long as a kept image has the same one. */
        private void lower(Pair pair) {
            int from = Math.min(pair.image.highest(), byHighest.length - 1);
            for (int power = from; power >= 0; power--) {
                int number = pair.image.number(power);
                if (number != 0) {
                    Pair kept = byHighest[power];
                    if (kept == null) {
                        return;
                    }
                    pair.image.addMultiple(negative(number), kept.image, 0);
                    pair.origin.addMultiple(negative(number), kept.origin, 0);
                }
            }
        }

        /**
         * An image that came to 0 is not kept: its power is free, and as no kept origin
         * has that power, the answer has 0 there.
         */
        private void keep(Pair pair) {
            int highest = pair.image.highest();
            if (highest < 0 || highest >= byHighest.length) {
                return;
            }
            int unit = inverse(pair.image.leading());
            pair.image.scaleBy(unit);
            pair.origin.scaleBy(unit);
            byHighest[highest] = pair;
        }

        Polynomial bottomBefore() {
            return bottomBefore;
        }
    }

    /** The sum as a multiple of the term. */
    private static final class Fraction {
        private final Polynomial top = new Polynomial();
        private final Polynomial bottom = new Polynomial();
        private boolean known = false;

        void forget() {
            known = false;
        }

        void renew(RatioSplit parts, Equation equation, Division division) {
            if (known) {
                return;
            }
            known = true;
            top.copyFrom(equation.bottomBefore());
            top.multiplyBy(equation.solution());
            // c is monic, as all its factors are, and so is what is left of it.
            bottom.copyFrom(parts.part(RatioSplit.EXTRA));
            Polynomial common = division.commonDivisor(top, bottom);
            division.divideOut(top, common);
            division.divideOut(bottom, common);
        }

        Polynomial top() {
            return top;
        }

        Polynomial bottom() {
            return bottom;
        }

        /** -1 where the bottom is 0. */
        int valueAt(int place) {
            int below = bottom.valueAt(place);
            return below == 0 ? -1 : top.valueAt(place) * inverse(below) % MODULUS;
        }
    }

    /** The terms from place 0 on, as far as they have been asked for. */
    private static final class Progress {
        private final int[] terms = new int[LAST_PLACE + 1];
        private int reached = 0;

        Progress() {
            terms[0] = 1;
        }

        void forget() {
            reached = 0;
        }

        /** Whether there is a term at n. */
        boolean reaches(int n, Polynomial ratioTop, Polynomial ratioBottom) {
            for (int place = reached; place < n && place + 1 < terms.length; place++) {
                int below = ratioBottom.valueAt(place);
                if (below == 0) {
                    return false;
                }
                int ratio = ratioTop.valueAt(place) * inverse(below) % MODULUS;
                terms[place + 1] = terms[place] * ratio % MODULUS;
                reached = place + 1;
            }
            return n <= reached;
        }

        int termAt(int n) {
            return n < 0 || n >= terms.length ? 0 : terms[n];
        }

        int sumBelow(int n) {
            int total = 0;
            for (int place = 0; place < n && place < terms.length; place++) {
                total = (total + terms[place]) % MODULUS;
            }
            return total;
        }
    }
}
