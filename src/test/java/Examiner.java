/**
 * Works out by the document's own words what an object with the given ratio has to answer,
 * by other ways than the class goes where there are some, and asks for all of it.
 */
final class Examiner {
    // The two sides of the equation are of degrees up to 32: as many places and one more tell.
    private static final int PLACES = 33;

    private final Check check;
    private final ClosedSums x;
    private final String name;
    private final long[] ratioTop;
    private final long[] ratioBottom;
    private long[] a;
    private long[] b;
    private long[] c = {1};
    private int degree = -1;

    private Examiner(Check check, String name, long[] ratioTop, long[] ratioBottom) {
        this.check = check;
        this.x = Plain.sums(ratioTop, ratioBottom);
        this.name = name;
        this.ratioTop = Plain.trim(ratioTop);
        this.ratioBottom = Plain.trim(ratioBottom);
    }

    /** Makes fewer than 512 calls on a new object; gives back the degree of the answer that is due. */
    static int examine(Check check, String name, long[] top, long[] bottom) {
        Examiner e = new Examiner(check, name, top, bottom);
        e.askSplit();
        e.askIdentities();
        e.askAnswer();
        if (e.degree >= 0) {
            e.askClosed();
        }
        e.askTerms();
        return e.degree;
    }

    /**
     * Few calls, so that an object can be asked after many changes within its 512 calls: it
     * answers like a new object with that ratio, which is then examined by itself.
     */
    static void likeNew(Check check, ClosedSums x, String name, long[] top, long[] bottom) {
        ClosedSums fresh = Plain.sums(top, bottom);
        for (int h = 0; h <= 8; h++) {
            check.equal(name + " found like new " + h, x.found(h), fresh.found(h));
        }
        for (int which = 0; which < 3; which++) {
            check.equal(name + " degree like new", x.degree(which), fresh.degree(which));
            check.equal(name + " split like new", x.split(which, 0), fresh.split(which, 0));
        }
        int degree = fresh.run();
        check.equal(name + " run like new", x.run(), degree);
        if (degree >= 0) {
            check.equal(name + " answer like new", x.answer(degree), fresh.answer(degree));
            check.equal(name + " top like new", x.closed(true, 0), fresh.closed(true, 0));
            check.equal(name + " bottom like new", x.closed(false, 0), fresh.closed(false, 0));
            check.equal(name + " value like new", x.value(77), fresh.value(77));
        } else {
            check.throwing(name + " no answer like new", IllegalStateException.class, () -> x.answer(0));
        }
        if (Plain.at(bottom, 0) != 0) {
            check.equal(name + " term like new", x.term(1), fresh.term(1));
            check.equal(name + " sum like new", x.sum(2), fresh.sum(2));
        } else {
            check.throwing(name + " no term like new", IllegalStateException.class, () -> x.term(1));
        }
        examine(check, name, top, bottom);
    }

    private void askSplit() {
        a = ratioTop;
        b = ratioBottom;
        for (int h = 0; h <= 8; h++) {
            long[] g = Plain.common(a, Plain.moved(b, h));
            check.equal(name + " found " + h, x.found(h), Plain.degree(g));
            a = Plain.quotient(a, g);
            b = Plain.quotient(b, Plain.moved(g, -h));
            for (int i = 1; i <= h; i++) {
                c = Plain.times(c, Plain.moved(g, -i));
            }
        }
        long[][] parts = {a, b, c};
        for (int which = 0; which < 3; which++) {
            check.equal(name + " degree " + which, x.degree(which), Plain.degree(parts[which]));
            for (int power = -2; power < 40; power++) {
                check.equal(name + " split " + which + " " + power,
                        x.split(which, power), Plain.number(parts[which], power));
            }
        }
    }

    /** What the document says in brackets of the split, and that no shift has a common factor. */
    private void askIdentities() {
        long[] one = Plain.times(Plain.times(ratioTop, b), c);
        long[] other = Plain.times(Plain.times(ratioBottom, a), Plain.moved(c, 1));
        check.holds(name + " split identity", java.util.Arrays.equals(one, other));
        for (int h = 0; h <= 8; h++) {
            check.equal(name + " still common at " + h, Plain.degree(Plain.common(a, Plain.moved(b, h))), 0);
        }
    }

    private long[][] system(int columns, boolean withRight) {
        long[][] rows = new long[PLACES][columns + (withRight ? 1 : 0)];
        for (int n = 0; n < PLACES; n++) {
            long here = 1;
            long next = 1;
            for (int power = 0; power < columns; power++) {
                rows[n][power] = Plain.mod(Plain.at(a, n) * next - Plain.at(b, n - 1) * here);
                here = Plain.mod(here * n);
                next = Plain.mod(next * (n + 1));
            }
            if (withRight) {
                rows[n][columns] = Plain.at(c, n);
            }
        }
        return rows;
    }

    private void askAnswer() {
        for (int d = 0; d <= 20 && degree < 0; d++) {
            if (Plain.rank(system(d + 1, true)) == Plain.rank(system(d + 1, false))) {
                degree = d;
            }
        }
        check.equal(name + " run", x.run(), degree);
        if (degree < 0) {
            check.throwing(name + " answer", IllegalStateException.class, () -> x.answer(0));
            check.throwing(name + " closed", IllegalStateException.class, () -> x.closed(true, 0));
            check.throwing(name + " value", IllegalStateException.class, () -> x.value(0));
            return;
        }
        for (int power = 0; power <= degree; power++) {
            if (free(power)) {
                check.equal(name + " answer at free " + power, x.answer(power), 0);
            }
        }
        for (int power = degree + 1; power < 40; power++) {
            check.equal(name + " answer " + power, x.answer(power), 0);
        }
        check.equal(name + " answer -1", x.answer(-1), 0);
        long[] answer = answer();
        for (int n = 0; n < PLACES; n++) {
            long left = Plain.mod(Plain.at(a, n) * Plain.at(answer, n + 1)
                    - Plain.at(b, n - 1) * Plain.at(answer, n));
            check.equal(name + " equation at " + n, left, Plain.at(c, n));
        }
    }

    private boolean free(int power) {
        return Plain.rank(system(power + 1, false)) == Plain.rank(system(power, false));
    }

    private long[] answer() {
        long[] answer = new long[degree + 1];
        for (int power = 0; power <= degree; power++) {
            answer[power] = x.answer(power);
        }
        return answer;
    }

    private void askClosed() {
        long[] top = Plain.times(Plain.moved(b, -1), answer());
        long[] common = Plain.common(top, c);
        top = Plain.quotient(top, common);
        long[] bottom = Plain.quotient(c, common);
        check.equal(name + " bottom's highest", bottom[bottom.length - 1], 1);
        for (int power = -2; power < 40; power++) {
            check.equal(name + " closed top " + power, x.closed(true, power), Plain.number(top, power));
            check.equal(name + " closed bottom " + power, x.closed(false, power), Plain.number(bottom, power));
        }
        long[] places = {0, 1, 2, 3, 5, 60, 32002, 32003, -1, -7, Long.MIN_VALUE, Long.MAX_VALUE};
        for (long n : places) {
            check.equal(name + " value " + n, x.value(n), through(Plain.at(top, n), Plain.at(bottom, n)));
        }
        int value = x.value(100);
        for (long n = 100; n < 130; n++) {
            int next = x.value(n + 1);
            checkGrowth(n, value, next);
            value = next;
        }
    }

    private static long through(long top, long bottom) {
        return bottom == 0 ? -1 : Plain.mod(top * Plain.inverse(bottom));
    }

    /** Closed times the term grows by the term. */
    private void checkGrowth(long n, int value, int next) {
        long below = Plain.at(ratioBottom, n);
        if (below != 0 && value >= 0 && next >= 0) {
            long ratio = Plain.mod(Plain.at(ratioTop, n) * Plain.inverse(below));
            check.equal(name + " growth at " + n, Plain.mod(ratio * next - value), 1);
        }
    }

    private void askTerms() {
        long term = 1;
        long sum = 0;
        boolean ended = false;
        boolean endedBefore = false;
        for (int n = 0; n <= 60; n++) {
            int place = n;
            if (ended) {
                check.throwing(name + " term " + n, IllegalStateException.class, () -> x.term(place));
            } else {
                check.equal(name + " term " + n, x.term(n), term);
            }
            if (endedBefore) {
                check.throwing(name + " sum " + n, IllegalStateException.class, () -> x.sum(place));
            } else {
                check.equal(name + " sum " + n, x.sum(n), sum);
            }
            endedBefore = ended;
            long below = Plain.at(ratioBottom, n);
            ended = ended || below == 0;
            if (!ended) {
                sum = Plain.mod(sum + term);
                term = Plain.mod(term * Plain.mod(Plain.at(ratioTop, n) * Plain.inverse(below)));
            } else if (!endedBefore) {
                sum = Plain.mod(sum + term);
            }
        }
    }
}
