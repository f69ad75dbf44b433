/** The boundaries that promises 7 and 8 name. */
public final class AnswerEdgesTest {
    private static final Check CHECK = new Check();
    private static final long[][][] WITH_ZERO = {{{}, {1, 1}}, {{1, 1}, {}}, {{}, {}}};
    /** n!, 1 through n!, and 1 through n + 1. */
    private static final long[][][] NO_ANSWER = {{{1, 1}, {1}}, {{1}, {1, 1}}, {{1, 1}, {2, 1}}};
    private static final int[] POWERS_OUTSIDE = {-1, 21, 22, 32, 33, Integer.MIN_VALUE, Integer.MAX_VALUE};

    public static void main(String[] args) {
        theLeastDegreeIsZero();
        theRatioOneHasOne();
        theLastDegreeIsTwenty();
        theLastDegreeWithAFactor();
        theLastDegreeWhereHighestPowersCancel();
        runTellsNoAnswer();
        runWithASideThatIsZero();
        answerPowersInsideAndOutside();
        answerAtItsDegreeIsNotZero();
        freePowersAtTheEnds();
        powersAboveTheDegreeAreNotFree();
        noAnswerWhereTheHighestPowerIsFree();
        answerWithoutAnAnswer();
        answerWithASideThatIsZero();
        CHECK.end();
    }

    private static void answerIs(String what, ClosedSums x, long... numbers) {
        CHECK.equal(what + " run", x.run(), numbers.length - 1);
        for (int power = 0; power <= 20; power++) {
            CHECK.equal(what + " answer " + power, x.answer(power), Plain.number(numbers, power));
        }
    }

    private static void theLeastDegreeIsZero() {
        answerIs("2^n", Plain.sums(new long[] {2}, new long[] {1}), 1);
        answerIs("0 to 1 of n", Plain.sums(new long[] {-1}, new long[] {1}), 16001);
        answerIs("(1 / 2)^n", Plain.sums(new long[] {1}, new long[] {2}), -1);
        answerIs("leads 32002 and 1", Plain.sums(new long[] {1}, new long[] {32002}), 16002);
    }

    /** The same number above and below comes to 0 at the power 0, which is free. */
    private static void theRatioOneHasOne() {
        answerIs("1", new ClosedSums(), 0, 1);
        answerIs("7 through 7", Plain.sums(new long[] {7}, new long[] {7}), 0, Plain.inverse(7));
        long[] full = {3, 1, 4, 1, 5};
        answerIs("same sides", Plain.sums(full, full), 0, Plain.inverse(5));
    }

    /** A factor at each of the shifts, far from the others: c has the shifts' sum as its degree. */
    private static ClosedSums pairs(long lead, int... shifts) {
        long[] top = new long[shifts.length];
        long[] bottom = new long[shifts.length];
        for (int i = 0; i < shifts.length; i++) {
            top[i] = 1000 * (i + 1);
            bottom[i] = top[i] + shifts[i];
        }
        return Plain.sums(Plain.ofRoots(lead, top), Plain.ofRoots(1, bottom));
    }

    private static void theLastDegreeIsTwenty() {
        CHECK.equal("c of degree 18", pairs(1, 8, 8, 2).run(), 19);
        CHECK.equal("c of degree 19", pairs(1, 8, 8, 3).run(), 20);
        CHECK.holds("its highest number", pairs(1, 8, 8, 3).answer(20) == Plain.inverse(20));
        CHECK.equal("c of degree 20", pairs(1, 8, 8, 4).run(), -1);
        CHECK.equal("c of degree 21", pairs(1, 8, 8, 5).run(), -1);
    }

    private static void theLastDegreeWithAFactor() {
        CHECK.equal("factor 3, c of degree 19", pairs(3, 8, 8, 3).run(), 19);
        CHECK.equal("factor 3, c of degree 20", pairs(3, 8, 8, 4).run(), 20);
        CHECK.equal("its highest number", pairs(3, 8, 8, 4).answer(20), Plain.inverse(2));
        CHECK.equal("factor 3, c of degree 21", pairs(3, 8, 8, 5).run(), -1);
        CHECK.equal("factor 3, c of degree 32", pairs(3, 8, 8, 8, 8).run(), -1);
    }

    private static void theLastDegreeWhereHighestPowersCancel() {
        for (int late = 18; late <= 22; late++) {
            long[] bottomBefore = {11, 100 + late, 1};
            ClosedSums x = Plain.sums(new long[] {7, 100, 1}, Plain.moved(bottomBefore, 1));
            CHECK.equal("cancels at " + late, x.run(), late <= 20 ? late : -1);
        }
    }

    private static void runTellsNoAnswer() {
        for (long[][] ratio : NO_ANSWER) {
            ClosedSums x = Plain.sums(ratio[0], ratio[1]);
            CHECK.equal("no answer", x.run(), -1);
            CHECK.equal("no answer, again", x.run(), -1);
            CHECK.equal("found is told all the same", x.found(0), 0);
            CHECK.equal("degree is told all the same", x.degree(2), 0);
            CHECK.equal("split is told all the same", x.split(2, 0), 1);
            x.clear();
            CHECK.equal("run after no answer", x.run(), 1);
        }
    }

    private static void runWithASideThatIsZero() {
        for (long[][] ratio : WITH_ZERO) {
            ClosedSums x = Plain.sums(ratio[0], ratio[1]);
            CHECK.throwing("run with 0", IllegalStateException.class, x::run);
            CHECK.throwing("run with 0, again", IllegalStateException.class, x::run);
            x.clear();
            CHECK.equal("run after 0", x.run(), 1);
        }
    }

    private static void answerPowersInsideAndOutside() {
        ClosedSums[] all = {new ClosedSums(), Plain.sums(new long[] {2}, new long[] {1}), pairs(1, 8, 8, 3), pairs(3, 8, 8, 4)};
        for (ClosedSums x : all) {
            for (int power : POWERS_OUTSIDE) {
                CHECK.equal("answer " + power, x.answer(power), 0);
            }
        }
    }

    private static void answerAtItsDegreeIsNotZero() {
        for (int degree = 1; degree <= 20; degree++) {
            int left = degree - 1;
            ClosedSums x = pairs(1, Math.min(left, 8), Math.max(Math.min(left - 8, 8), 0), Math.max(left - 16, 0));
            CHECK.equal("degree " + degree, x.run(), degree);
            CHECK.equal("answer at its degree", x.answer(degree), Plain.inverse(degree));
            CHECK.equal("answer above its degree", x.answer(degree + 1), 0);
            CHECK.equal("answer at the free power 0", x.answer(0), 0);
        }
    }

    /** A factor of A and one of B that make the power free come to 0, beside what makes c. */
    private static ClosedSums withFree(int free, int... shifts) {
        ClosedSums plain = pairs(1, shifts);
        long[] top = new long[shifts.length + 1];
        long[] bottom = new long[shifts.length + 1];
        for (int power = 0; power <= shifts.length; power++) {
            top[power] = plain.at(true, power);
            bottom[power] = plain.at(false, power);
        }
        return Plain.sums(Plain.times(top, Plain.ofRoots(1, -20000)),
                Plain.times(bottom, Plain.ofRoots(1, -20001 - free)));
    }

    /**
     * Next below d, and far below it: the last root was sought so that c can be reached although
     * one power of x is missing.
     */
    private static void freePowersAtTheEnds() {
        ClosedSums low = Plain.sums(Plain.ofRoots(1, -3, -1001, -31011), Plain.ofRoots(1, -5, -1000, -31010));
        freeIs(low, 1, 2);
        ClosedSums high = Plain.sums(Plain.ofRoots(1, -3, -1008, -2008, -26054), Plain.ofRoots(1, -23, -1000, -2000, -26050));
        freeIs(high, 19, 20);
        ClosedSums far = Plain.sums(Plain.ofRoots(1, -3, -1008, -2009, -13344), Plain.ofRoots(1, -5, -1000, -2001, -13340));
        freeIs(far, 1, 20);
    }

    private static void freeIs(ClosedSums x, int free, int degree) {
        CHECK.equal("run with the free power " + free, x.run(), degree);
        CHECK.equal("answer at the free power " + free, x.answer(free), 0);
        CHECK.equal("answer at the highest power " + degree, x.answer(degree), Plain.inverse(degree - free));
        long[] answer = new long[degree + 1];
        long[] a = new long[5];
        long[] b = new long[5];
        for (int power = 0; power <= degree; power++) {
            answer[power] = x.answer(power);
        }
        for (int power = 0; power <= 4; power++) {
            a[power] = x.split(0, power);
            b[power] = x.split(1, power);
        }
        long[] grown = Plain.times(a, Plain.moved(answer, 1));
        long[] less = Plain.times(Plain.moved(b, -1), answer);
        for (int power = 0; power <= 24; power++) {
            long left = Plain.mod(Plain.number(grown, power) - Plain.number(less, power));
            CHECK.equal("equation with the free power " + free, left, x.split(2, power));
        }
    }

    /** The power that comes to 0 lies above d, so that it says nothing about the answer. */
    private static void powersAboveTheDegreeAreNotFree() {
        for (int above : new int[] {1, 2, 19, 20, 21}) {
            answerIs("free above 0: " + above, withFree(above), Plain.inverse(Plain.mod(-above)));
        }
        CHECK.equal("free 20, c of degree 19", withFree(20, 8, 8, 3).run(), 19);
        CHECK.equal("its highest number", withFree(20, 8, 8, 3).answer(19), 32002);
        CHECK.equal("free 21, c of degree 20", withFree(21, 8, 8, 4).run(), 20);
        CHECK.equal("its highest number", withFree(21, 8, 8, 4).answer(20), 32002);
        CHECK.equal("free 21, c of degree 21", withFree(21, 8, 8, 5).run(), -1);
    }

    private static void noAnswerWhereTheHighestPowerIsFree() {
        for (int free : new int[] {1, 2, 8}) {
            CHECK.equal("c of the degree " + free + " that is free", withFree(free, free).run(), -1);
        }
        CHECK.equal("c of the degree 20 that is free", withFree(20, 8, 8, 4).run(), -1);
    }

    private static void answerWithoutAnAnswer() {
        for (long[][] ratio : NO_ANSWER) {
            ClosedSums x = Plain.sums(ratio[0], ratio[1]);
            for (int power : new int[] {0, 1, 20, 21, -1, Integer.MIN_VALUE, Integer.MAX_VALUE}) {
                CHECK.throwing("no answer at " + power, IllegalStateException.class, () -> x.answer(power));
            }
        }
    }

    private static void answerWithASideThatIsZero() {
        for (long[][] ratio : WITH_ZERO) {
            ClosedSums x = Plain.sums(ratio[0], ratio[1]);
            for (int power : new int[] {0, 1, 20, 21, -1, Integer.MIN_VALUE, Integer.MAX_VALUE}) {
                CHECK.throwing("answer with 0 at " + power, IllegalStateException.class, () -> x.answer(power));
            }
        }
    }
}
