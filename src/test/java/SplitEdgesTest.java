/** The boundaries that promises 4, 5 and 6 name. */
public final class SplitEdgesTest {
    private static final Check CHECK = new Check();
    private static final long[][][] WITH_ZERO = {{{}, {1, 1}}, {{1, 1}, {}}, {{}, {}}};
    private static final int[] SHIFTS_OUTSIDE = {-1, 9, -2, 10, Integer.MIN_VALUE, Integer.MAX_VALUE};
    private static final int[] PARTS_OUTSIDE = {-1, 3, -2, 4, Integer.MIN_VALUE, Integer.MAX_VALUE};
    private static final int[] POWERS_OUTSIDE = {-1, 33, 34, 64, Integer.MIN_VALUE, Integer.MAX_VALUE};

    public static void main(String[] args) {
        shiftsInsideAndOutside();
        foundAtTheFirstAndTheLastShift();
        foundJustOutsideTheShifts();
        foundRoundTheEnd();
        foundOfTheLeastAndTheHighestDegree();
        foundWithASideThatIsZero();
        partsInsideAndOutside();
        degreesAreLeast();
        degreesAreHighest();
        degreeWithASideThatIsZero();
        splitPartsInsideAndOutside();
        splitPowersInsideAndOutside();
        splitWithASideThatIsZero();
        splitKeepsLeadsAndMonicC();
        CHECK.end();
    }

    private static void shiftsInsideAndOutside() {
        ClosedSums x = new ClosedSums();
        for (int h = 0; h <= 8; h++) {
            CHECK.equal("found " + h, x.found(h), 0);
        }
        for (int h : SHIFTS_OUTSIDE) {
            CHECK.throwing("found " + h, IllegalArgumentException.class, () -> x.found(h));
        }
    }

    /** A root r in A and a root r + h in B. */
    private static ClosedSums shiftedBy(int h) {
        return Plain.sums(Plain.ofRoots(1, 500), Plain.ofRoots(1, 500 + h));
    }

    private static void foundAtTheFirstAndTheLastShift() {
        for (int due : new int[] {0, 1, 7, 8}) {
            ClosedSums x = shiftedBy(due);
            for (int h = 0; h <= 8; h++) {
                CHECK.equal("shift " + due + ", found " + h, x.found(h), h == due ? 1 : 0);
            }
            CHECK.equal("shift " + due + ", degree of a", x.degree(0), 0);
            CHECK.equal("shift " + due + ", degree of b", x.degree(1), 0);
            CHECK.equal("shift " + due + ", degree of c", x.degree(2), due);
        }
    }

    private static void foundJustOutsideTheShifts() {
        for (int outside : new int[] {-1, 9, -8, 10, 31994, 32002}) {
            ClosedSums x = shiftedBy(outside);
            for (int h = 0; h <= 8; h++) {
                CHECK.equal("shift " + outside + ", found " + h, x.found(h), 0);
            }
            CHECK.equal("shift " + outside + ", degree of a", x.degree(0), 1);
            CHECK.equal("shift " + outside + ", degree of b", x.degree(1), 1);
            CHECK.equal("shift " + outside + ", degree of c", x.degree(2), 0);
        }
    }

    private static void foundRoundTheEnd() {
        ClosedSums x = Plain.sums(Plain.ofRoots(1, 32002), Plain.ofRoots(1, 0));
        CHECK.equal("from 32002 to 0, found 1", x.found(1), 1);
        CHECK.equal("from 32002 to 0, c", x.split(2, 0), 0);
        ClosedSums far = Plain.sums(Plain.ofRoots(1, 31999), Plain.ofRoots(1, 4));
        CHECK.equal("from 31999 to 4, found 8", far.found(8), 1);
        for (int power = 0; power <= 8; power++) {
            CHECK.equal("from 31999 to 4, c " + power, far.split(2, power),
                    Plain.number(Plain.ofRoots(1, -3, -2, -1, 0, 1, 2, 3, 4), power));
        }
        ClosedSums tooFar = Plain.sums(Plain.ofRoots(1, 31998), Plain.ofRoots(1, 4));
        CHECK.equal("from 31998 to 4, found 8", tooFar.found(8), 0);
        ClosedSums back = Plain.sums(Plain.ofRoots(1, 0), Plain.ofRoots(1, 32002));
        CHECK.equal("from 0 to 32002, found 1", back.found(1), 0);
    }

    private static void foundOfTheLeastAndTheHighestDegree() {
        long[] full = {3, 1, 4, 1, 5};
        ClosedSums same = Plain.sums(full, full);
        CHECK.equal("same sides, found 0", same.found(0), 4);
        CHECK.equal("same sides, found 8", same.found(8), 0);
        ClosedSums last = Plain.sums(Plain.moved(full, 8), full);
        CHECK.equal("moved by 8, found 0", last.found(0), 0);
        CHECK.equal("moved by 8, found 7", last.found(7), 0);
        CHECK.equal("moved by 8, found 8", last.found(8), 4);
        ClosedSums beyond = Plain.sums(Plain.moved(full, 9), full);
        CHECK.equal("moved by 9, found 8", beyond.found(8), 0);
        ClosedSums numbers = Plain.sums(new long[] {32002}, new long[] {2});
        CHECK.equal("numbers, found 0", numbers.found(0), 0);
        CHECK.equal("numbers, found 8", numbers.found(8), 0);
    }

    private static void foundWithASideThatIsZero() {
        for (long[][] ratio : WITH_ZERO) {
            ClosedSums x = Plain.sums(ratio[0], ratio[1]);
            for (int h = 0; h <= 8; h++) {
                int shift = h;
                CHECK.throwing("found with 0 " + h, IllegalStateException.class, () -> x.found(shift));
            }
            for (int h : SHIFTS_OUTSIDE) {
                CHECK.throwing("found with both wrong " + h, IllegalStateException.class, () -> x.found(h));
            }
        }
    }

    private static void partsInsideAndOutside() {
        ClosedSums x = new ClosedSums();
        for (int which = 0; which <= 2; which++) {
            CHECK.equal("degree " + which, x.degree(which), 0);
        }
        for (int which : PARTS_OUTSIDE) {
            CHECK.throwing("degree " + which, IllegalArgumentException.class, () -> x.degree(which));
        }
    }

    private static void degreesAreLeast() {
        long[] full = {3, 1, 4, 1, 5};
        ClosedSums x = Plain.sums(full, Plain.times(full, new long[] {7}));
        for (int which = 0; which <= 2; which++) {
            CHECK.equal("like sides, degree " + which, x.degree(which), 0);
        }
        CHECK.equal("like sides, a", x.split(0, 0), 5);
        CHECK.equal("like sides, b", x.split(1, 0), 35);
        CHECK.equal("like sides, c", x.split(2, 0), 1);
    }

    private static void degreesAreHighest() {
        ClosedSums x = Plain.sums(Plain.ofRoots(2, 0, 1, 2, 3), Plain.ofRoots(3, 100, 101, 102, 103));
        CHECK.equal("nothing in common, degree of a", x.degree(0), 4);
        CHECK.equal("nothing in common, degree of b", x.degree(1), 4);
        CHECK.equal("nothing in common, degree of c", x.degree(2), 0);
        ClosedSums last = Plain.sums(Plain.ofRoots(2, 0, 1, 2, 3), Plain.ofRoots(3, 8, 9, 10, 11));
        // The least shift goes first: the root 3 meets 8 already at the shift 5.
        CHECK.equal("roots in a row, found 5", last.found(5), 1);
        ClosedSums longest = Plain.sums(Plain.ofRoots(2, 0, 50, 100, 150), Plain.ofRoots(3, 8, 58, 108, 158));
        CHECK.equal("all at 8, degree of a", longest.degree(0), 0);
        CHECK.equal("all at 8, degree of b", longest.degree(1), 0);
        CHECK.equal("all at 8, degree of c", longest.degree(2), 32);
    }

    private static void degreeWithASideThatIsZero() {
        for (long[][] ratio : WITH_ZERO) {
            ClosedSums x = Plain.sums(ratio[0], ratio[1]);
            for (int which = 0; which <= 2; which++) {
                int part = which;
                CHECK.throwing("degree with 0 " + which, IllegalStateException.class, () -> x.degree(part));
            }
            for (int which : PARTS_OUTSIDE) {
                CHECK.throwing("degree with both wrong " + which, IllegalStateException.class, () -> x.degree(which));
            }
        }
    }

    private static void splitPartsInsideAndOutside() {
        ClosedSums x = Plain.sums(new long[] {5}, new long[] {6});
        CHECK.equal("split 0", x.split(0, 0), 5);
        CHECK.equal("split 1", x.split(1, 0), 6);
        CHECK.equal("split 2", x.split(2, 0), 1);
        for (int which : PARTS_OUTSIDE) {
            for (int power : new int[] {0, 4, -1, 33, Integer.MIN_VALUE, Integer.MAX_VALUE}) {
                CHECK.throwing("split " + which + " " + power, IllegalArgumentException.class, () -> x.split(which, power));
            }
        }
    }

    private static void splitPowersInsideAndOutside() {
        ClosedSums x = Plain.sums(Plain.ofRoots(2, 0, 50, 100, 150), Plain.ofRoots(3, 8, 58, 108, 158));
        CHECK.equal("the highest of c", x.split(2, 32), 1);
        CHECK.holds("below the highest of c", x.split(2, 31) != 0);
        CHECK.holds("the lowest of c", x.split(2, 0) != 0);
        ClosedSums whole = Plain.sums(new long[] {1, 0, 0, 0, 9}, new long[] {4, 1, 0, 0, 8});
        CHECK.equal("the highest of a", whole.split(0, 4), 9);
        CHECK.equal("the highest of b", whole.split(1, 4), 8);
        for (ClosedSums any : new ClosedSums[] {x, whole, new ClosedSums()}) {
            for (int which = 0; which <= 2; which++) {
                for (int power : POWERS_OUTSIDE) {
                    CHECK.equal("split " + which + " " + power, any.split(which, power), 0);
                }
                CHECK.equal("split above the highest", any.split(which, any.degree(which) + 1), 0);
                CHECK.holds("split at the highest", any.split(which, any.degree(which)) != 0);
            }
        }
    }

    private static void splitWithASideThatIsZero() {
        for (long[][] ratio : WITH_ZERO) {
            ClosedSums x = Plain.sums(ratio[0], ratio[1]);
            for (int power : new int[] {0, 1, -1, 33, Integer.MIN_VALUE, Integer.MAX_VALUE}) {
                for (int which = 0; which <= 2; which++) {
                    int part = which;
                    CHECK.throwing("split with 0 " + which, IllegalStateException.class, () -> x.split(part, power));
                }
                for (int which : PARTS_OUTSIDE) {
                    CHECK.throwing("split with both wrong " + which, IllegalStateException.class, () -> x.split(which, power));
                }
            }
        }
    }

    /** The divisor is monic whatever the sides begin with. */
    private static void splitKeepsLeadsAndMonicC() {
        for (long lead : new long[] {1, 2, 16001, 32002}) {
            for (int h : new int[] {0, 1, 8}) {
                ClosedSums x = Plain.sums(Plain.ofRoots(lead, 500), Plain.ofRoots(32003 - lead, 500 + h));
                CHECK.equal("lead of a", x.split(0, 0), lead);
                CHECK.equal("lead of b", x.split(1, 0), 32003 - lead);
                CHECK.equal("lead of c", x.split(2, h), 1);
            }
        }
    }
}
