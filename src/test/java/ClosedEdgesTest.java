/** The boundaries that promises 9 and 10 name. */
public final class ClosedEdgesTest {
    private static final Check CHECK = new Check();
    /** A, B or both are 0; then n!, 1 through n!, and 1 through n + 1, which have no answer. */
    private static final long[][][] REFUSED = {
        {{}, {1, 1}}, {{1, 1}, {}}, {{}, {}}, {{1, 1}, {1}}, {{1}, {1, 1}}, {{1, 1}, {2, 1}}};
    private static final int[] POWERS_OUTSIDE = {-1, 25, 32, 33, Integer.MIN_VALUE, Integer.MAX_VALUE};

    public static void main(String[] args) {
        nothingCancels();
        allOfTheBottomCancels();
        aPartCancels();
        theBottomIsMonic();
        theHighestTop();
        theHighestTopOfThirdPowers();
        theHighestBottom();
        closedPowersOutside();
        closedIsRefused();
        valueOfEveryKindOfPlace();
        valueWhereTheBottomIsZero();
        valueWhereTheTopIsZero();
        valueWhereTheFactorCancelled();
        valueWhereTheTermHasEnded();
        valueIsRefused();
        CHECK.end();
    }

    /** The term is 2^n times n less the root; the sum is n less root and 2, through n less root. */
    private static ClosedSums poleAt(long root) {
        return Plain.sums(Plain.ofRoots(2, root - 1), Plain.ofRoots(1, root));
    }

    private static void closedIs(String what, ClosedSums x, long[] top, long[] bottom) {
        for (int power = 0; power <= 24; power++) {
            CHECK.equal(what + " top " + power, x.closed(true, power), Plain.number(top, power));
            CHECK.equal(what + " bottom " + power, x.closed(false, power), Plain.number(bottom, power));
        }
    }

    private static void nothingCancels() {
        closedIs("a pole at 9", poleAt(9), new long[] {-11, 1}, new long[] {-9, 1});
        closedIs("a pole at 0", poleAt(0), new long[] {-2, 1}, new long[] {0, 1});
        closedIs("a pole at -1", poleAt(-1), new long[] {-1, 1}, new long[] {1, 1});
    }

    private static void allOfTheBottomCancels() {
        // The sum of n + 1 is n times n + 1 through 2.
        closedIs("n + 1", Plain.sums(new long[] {2, 1}, new long[] {1, 1}), new long[] {0, 16002}, new long[] {1});
        closedIs("1", new ClosedSums(), new long[] {0, 1}, new long[] {1});
    }

    private static void aPartCancels() {
        // The sum of (n + 1)^2 is n (n + 1) (2 n + 1) / 6.
        long sixth = Plain.inverse(6);
        closedIs("(n + 1)^2", Plain.sums(new long[] {4, 4, 1}, new long[] {1, 2, 1}),
                new long[] {0, sixth, 2 * sixth}, new long[] {1, 1});
    }

    private static void theBottomIsMonic() {
        for (long lead : new long[] {2, 3, 16001, 32002}) {
            ClosedSums x = Plain.sums(Plain.ofRoots(2 * lead, 8), Plain.ofRoots(lead, 9));
            // The equation is so many times larger, and so is what b brings back.
            closedIs("lead " + lead, x, new long[] {-11, 1}, new long[] {-9, 1});
        }
    }

    /**
     * b with n - 1 in place of n is given. At the power 20 the highest powers cancel, and the
     * numbers were sought so that a number is all that is left: then c is 1 and x of degree 20.
     */
    private static void theHighestTop() {
        topEndsAt(24, new long[] {3383, 1, 0, 0, 1}, new long[] {14955, 0, 0, 20, 1});
        topEndsAt(24, new long[] {5400, 2, 0, 0, 1}, new long[] {16001, 0, 0, 20, 1});
    }

    /**
     * In m = n + 1/2, b with n - 1 in place of n is -a with -m in place of m: so an even power of
     * m comes to even powers of m alone. At 20 the highest ones cancel, and a number is left.
     */
    private static void theHighestTopOfThirdPowers() {
        long half = Plain.inverse(2);
        topEndsAt(23, Plain.moved(new long[] {5, 3, -10, 1}, half), Plain.moved(new long[] {-5, 3, 10, 1}, half));
    }

    private static void topEndsAt(int highest, long[] a, long[] bottomBefore) {
        String what = "top of degree " + highest;
        long[] b = Plain.moved(bottomBefore, 1);
        CHECK.equal(what + ", degree", Examiner.examine(CHECK, what, a, b), 20);
        ClosedSums x = Plain.sums(a, b);
        CHECK.equal(what + ", c", x.degree(2), 0);
        CHECK.equal(what + " at its highest", x.closed(true, highest), x.answer(20));
        CHECK.holds(what + " isn't 0 there", x.closed(true, highest) != 0);
        for (int power = highest + 1; power <= 33; power++) {
            CHECK.equal(what + " at " + power, x.closed(true, power), 0);
        }
        CHECK.equal(what + ", bottom", x.closed(false, 0), 1);
        long[] top = topOf(x);
        for (long n : new long[] {0, 1, 60, -1, 16001, 32002, Long.MIN_VALUE, Long.MAX_VALUE}) {
            CHECK.equal(what + ", value at " + n, x.value(n), Plain.at(top, n));
        }
    }

    private static long[] topOf(ClosedSums x) {
        long[] top = new long[25];
        for (int power = 0; power < top.length; power++) {
            top[power] = x.closed(true, power);
        }
        return top;
    }

    private static void theHighestBottom() {
        ClosedSums x = Plain.sums(Plain.ofRoots(3, 1000, 2000, 3000), Plain.ofRoots(1, 1008, 2008, 3004));
        CHECK.equal("highest bottom", x.closed(false, 20), 1);
        CHECK.equal("above the highest bottom", x.closed(false, 21), 0);
        CHECK.equal("its top's highest", x.closed(true, 20), Plain.inverse(2));
        CHECK.equal("above its top's highest", x.closed(true, 21), 0);
        for (int pole : new int[] {1001, 1008, 2001, 2008, 3001, 3004}) {
            CHECK.equal("pole at " + pole, x.value(pole), -1);
        }
        for (int place : new int[] {1000, 1009, 2000, 2009, 3000, 3005}) {
            CHECK.holds("no pole at " + place, x.value(place) >= 0);
        }
    }

    private static void closedPowersOutside() {
        for (ClosedSums x : new ClosedSums[] {new ClosedSums(), poleAt(9)}) {
            for (int power : POWERS_OUTSIDE) {
                CHECK.equal("closed top " + power, x.closed(true, power), 0);
                CHECK.equal("closed bottom " + power, x.closed(false, power), 0);
            }
            CHECK.equal("closed top 1", x.closed(true, 1), 1);
            CHECK.equal("closed top 2", x.closed(true, 2), 0);
            CHECK.equal("closed bottom 2", x.closed(false, 2), 0);
        }
    }

    private static void closedIsRefused() {
        for (long[][] ratio : REFUSED) {
            ClosedSums x = Plain.sums(ratio[0], ratio[1]);
            for (boolean top : new boolean[] {true, false}) {
                for (int power : new int[] {0, 1, 24, -1, 33, Integer.MIN_VALUE, Integer.MAX_VALUE}) {
                    CHECK.throwing("closed " + top + power, IllegalStateException.class, () -> x.closed(top, power));
                }
            }
        }
    }

    /** Of the ratio 1 the sum is n times the term, so the value is n itself, modulo 32003. */
    private static void valueOfEveryKindOfPlace() {
        long[][] places = {
            {0, 0}, {1, 1}, {60, 60}, {61, 61}, {32002, 32002}, {32003, 0}, {32004, 1}, {-1, 32002}, {-32002, 1},
            {-32003, 0}, {-32004, 32002}, {Integer.MIN_VALUE, 13661}, {Integer.MAX_VALUE, 18341},
            {2147483648L, 18342}, {4294967296L, 4681}, {Long.MIN_VALUE, 5147}, {Long.MIN_VALUE + 1, 5148},
            {Long.MAX_VALUE, 26855}, {Long.MAX_VALUE - 1, 26854}};
        ClosedSums x = new ClosedSums();
        for (long[] place : places) {
            CHECK.equal("value of 1 at " + place[0], x.value(place[0]), place[1]);
        }
    }

    private static void valueWhereTheBottomIsZero() {
        for (long root : new long[] {0, 1, 60, 61, 32001, 32002}) {
            ClosedSums x = poleAt(root);
            for (long n : new long[] {root, root + 32003, root - 32003, root - 64006, root + 32003L * 4294967296L}) {
                CHECK.equal("bottom 0 at " + n, x.value(n), -1);
                CHECK.equal("1 behind " + n, x.value(n + 1), 32002);
                CHECK.equal("1 ahead of " + n, x.value(n - 1), 3);
            }
        }
        CHECK.equal("bottom 0 at the least long", poleAt(5147).value(Long.MIN_VALUE), -1);
        CHECK.equal("bottom 0 at the greatest long", poleAt(26855).value(Long.MAX_VALUE), -1);
        CHECK.equal("bottom 0 at the least int", poleAt(13661).value(Integer.MIN_VALUE), -1);
        CHECK.equal("bottom 0 at the greatest int", poleAt(18341).value(Integer.MAX_VALUE), -1);
        CHECK.equal("bottom 0 at 2^32", poleAt(4681).value(4294967296L), -1);
        CHECK.holds("bottom not 0 at 0", poleAt(4681).value(0) != -1);
    }

    private static void valueWhereTheTopIsZero() {
        CHECK.equal("top 0", poleAt(9).value(11), 0);
        CHECK.equal("top 0 round the end", poleAt(9).value(11 - 32003), 0);
        CHECK.equal("top 0 of n", new ClosedSums().value(0), 0);
    }

    private static void valueWhereTheFactorCancelled() {
        ClosedSums x = Plain.sums(new long[] {2, 1}, new long[] {1, 1});
        CHECK.equal("n + 1 at -1", x.value(-1), 16001);
        CHECK.equal("n + 1 at 32002", x.value(32002), 16001);
    }

    /** The value is the fraction's, whatever A and B are there. */
    private static void valueWhereTheTermHasEnded() {
        ClosedSums x = poleAt(9);
        CHECK.throwing("the term behind 9", IllegalStateException.class, () -> x.term(10));
        CHECK.equal("value behind 9", x.value(10), 32002);
        CHECK.equal("value at 60", x.value(60), Plain.mod(49 * Plain.inverse(51)));
    }

    private static void valueIsRefused() {
        for (long[][] ratio : REFUSED) {
            ClosedSums x = Plain.sums(ratio[0], ratio[1]);
            for (long n : new long[] {0, 1, 60, 61, -1, 32003, Long.MIN_VALUE, Long.MAX_VALUE}) {
                CHECK.throwing("value " + n, IllegalStateException.class, () -> x.value(n));
            }
        }
    }
}
