/** The boundaries that promises 11 and 12 name. */
public final class TermsEdgesTest {
    private static final Check CHECK = new Check();
    private static final int[] PLACES_OUTSIDE = {-1, 61, -2, 62, Integer.MIN_VALUE, Integer.MAX_VALUE};

    public static void main(String[] args) {
        placesInside();
        placesOutside();
        termEndsBehindTheFirstZeroOfB();
        sumEndsOnePlaceLater();
        sumOfNoneNeverEnds();
        zeroOfBAtTheLastPlaces();
        zeroOfBBehindTheLastPlaceOrAheadOfTheFirst();
        twoZerosOfB();
        bIsZero();
        aIsZero();
        aIsZeroAtAPlace();
        aAndBAreZeroAtThePlace();
        bothExceptionsAtOnce();
        anEndThatIsMendedOrMade();
        anEndThatIsShifted();
        termsWithoutAnAnswer();
        numbersRoundTheEnd();
        CHECK.end();
    }

    private static void termThrows(ClosedSums x, int n) {
        CHECK.throwing("term " + n, IllegalStateException.class, () -> x.term(n));
    }

    private static void sumThrows(ClosedSums x, int n) {
        CHECK.throwing("sum " + n, IllegalStateException.class, () -> x.sum(n));
    }

    private static ClosedSums endBehind(long... roots) {
        return Plain.sums(new long[] {1}, Plain.ofRoots(1, roots));
    }

    private static void placesInside() {
        ClosedSums x = Plain.sums(new long[] {2}, new long[] {1});
        CHECK.equal("term 60 first", x.term(60), 3357);
        CHECK.equal("term 0", x.term(0), 1);
        CHECK.equal("term 1", x.term(1), 2);
        CHECK.equal("term 14", x.term(14), 16384);
        CHECK.equal("term 15", x.term(15), 765);
        ClosedSums y = Plain.sums(new long[] {2}, new long[] {1});
        CHECK.equal("sum 60 first", y.sum(60), 3356);
        CHECK.equal("sum 0", y.sum(0), 0);
        CHECK.equal("sum 1", y.sum(1), 1);
        CHECK.equal("sum 2", y.sum(2), 3);
        CHECK.equal("sum 15", y.sum(15), 764);
    }

    private static void placesOutside() {
        ClosedSums x = Plain.sums(new long[] {2}, new long[] {1});
        for (int n : PLACES_OUTSIDE) {
            CHECK.throwing("term " + n, IndexOutOfBoundsException.class, () -> x.term(n));
            CHECK.throwing("sum " + n, IndexOutOfBoundsException.class, () -> x.sum(n));
        }
    }

    private static void termEndsBehindTheFirstZeroOfB() {
        for (int end = 0; end < 60; end++) {
            ClosedSums x = endBehind(end);
            termThrows(x, end + 1);
            termThrows(x, 60);
            CHECK.holds("term " + end, x.term(end) > 0);
            CHECK.equal("term 0", x.term(0), 1);
        }
    }

    private static void sumEndsOnePlaceLater() {
        for (int end = 0; end < 59; end++) {
            ClosedSums x = endBehind(end);
            sumThrows(x, end + 2);
            sumThrows(x, 60);
            long due = Plain.mod((long) x.sum(end) + x.term(end));
            CHECK.equal("sum up to the end " + end, x.sum(end + 1), due);
        }
    }

    private static void sumOfNoneNeverEnds() {
        CHECK.equal("B 0 at 0", endBehind(0).sum(0), 0);
        CHECK.equal("B 0 at 0 and 1", endBehind(0, 1).sum(0), 0);
        CHECK.equal("B 0", Plain.sums(new long[] {1}, new long[] {}).sum(0), 0);
        CHECK.equal("both 0", Plain.sums(new long[] {}, new long[] {}).sum(0), 0);
    }

    private static void zeroOfBAtTheLastPlaces() {
        ClosedSums at58 = endBehind(58);
        CHECK.holds("58: term 58", at58.term(58) > 0);
        termThrows(at58, 59);
        CHECK.holds("58: sum 59", at58.sum(59) > 0);
        sumThrows(at58, 60);
        ClosedSums at59 = endBehind(59);
        CHECK.holds("59: term 59", at59.term(59) > 0);
        termThrows(at59, 60);
        CHECK.equal("59: sum 60", at59.sum(60), Plain.mod((long) at59.sum(59) + at59.term(59)));
        ClosedSums at60 = endBehind(60);
        CHECK.holds("60: term 60", at60.term(60) > 0);
        CHECK.equal("60: sum 60", at60.sum(60), Plain.mod((long) at60.sum(59) + at60.term(59)));
    }

    private static void zeroOfBBehindTheLastPlaceOrAheadOfTheFirst() {
        for (long root : new long[] {61, 100, 32002, -1, -60}) {
            ClosedSums x = endBehind(root);
            CHECK.holds("B 0 at " + root + ", term", x.term(60) > 0);
            CHECK.holds("B 0 at " + root + ", sum", x.sum(60) >= 0);
        }
    }

    private static void twoZerosOfB() {
        ClosedSums x = endBehind(50, 3);
        CHECK.holds("term 3", x.term(3) > 0);
        termThrows(x, 4);
        termThrows(x, 50);
        termThrows(x, 51);
        CHECK.holds("sum 4", x.sum(4) >= 0);
        sumThrows(x, 5);
    }

    private static void bIsZero() {
        ClosedSums x = Plain.sums(new long[] {1, 1}, new long[] {});
        CHECK.equal("term 0", x.term(0), 1);
        termThrows(x, 1);
        termThrows(x, 60);
        CHECK.equal("sum 0", x.sum(0), 0);
        CHECK.equal("sum 1", x.sum(1), 1);
        sumThrows(x, 2);
        sumThrows(x, 60);
    }

    /** A that is 0 ends nothing. */
    private static void aIsZero() {
        ClosedSums x = Plain.sums(new long[] {}, new long[] {1, 1});
        CHECK.equal("term 0", x.term(0), 1);
        CHECK.equal("term 1", x.term(1), 0);
        CHECK.equal("term 60", x.term(60), 0);
        CHECK.equal("sum 0", x.sum(0), 0);
        CHECK.equal("sum 1", x.sum(1), 1);
        CHECK.equal("sum 60", x.sum(60), 1);
        ClosedSums both = Plain.sums(new long[] {}, new long[] {});
        CHECK.equal("both 0, term 0", both.term(0), 1);
        termThrows(both, 1);
        CHECK.equal("both 0, sum 1", both.sum(1), 1);
        sumThrows(both, 2);
    }

    private static void aIsZeroAtAPlace() {
        for (int place : new int[] {0, 1, 58, 59}) {
            ClosedSums x = Plain.sums(Plain.ofRoots(1, place), new long[] {1});
            CHECK.holds("A 0 at " + place + ", term there", x.term(place) != 0);
            CHECK.equal("A 0 at " + place + ", term behind", x.term(place + 1), 0);
            CHECK.equal("A 0 at " + place + ", term 60", x.term(60), 0);
            CHECK.equal("A 0 at " + place + ", sum 60", x.sum(60), x.sum(place + 1));
        }
        CHECK.holds("A 0 at 60, term 60", Plain.sums(Plain.ofRoots(1, 60), new long[] {1}).term(60) != 0);
    }

    /** What the sides have in common is not taken out of the terms. */
    private static void aAndBAreZeroAtThePlace() {
        ClosedSums x = Plain.sums(Plain.ofRoots(1, 5), Plain.ofRoots(1, 5));
        CHECK.equal("term 5", x.term(5), 1);
        termThrows(x, 6);
        CHECK.equal("sum 6", x.sum(6), 6);
        sumThrows(x, 7);
        CHECK.equal("run", x.run(), 1);
    }

    private static void bothExceptionsAtOnce() {
        ClosedSums[] ended = {endBehind(0), endBehind(59), Plain.sums(new long[] {1}, new long[] {}),
            Plain.sums(new long[] {}, new long[] {})};
        for (ClosedSums x : ended) {
            for (int n : PLACES_OUTSIDE) {
                CHECK.throwing("ended, term " + n, IndexOutOfBoundsException.class, () -> x.term(n));
                CHECK.throwing("ended, sum " + n, IndexOutOfBoundsException.class, () -> x.sum(n));
            }
        }
    }

    private static void anEndThatIsMendedOrMade() {
        ClosedSums x = endBehind(5);
        CHECK.holds("before: term 5", x.term(5) > 0);
        termThrows(x, 6);
        x.put(false, 1, 0);
        CHECK.holds("mended: term 60", x.term(60) > 0);
        CHECK.holds("mended: sum 60", x.sum(60) >= 0);
        x.put(false, 0, -4);
        x.put(false, 1, 1);
        termThrows(x, 5);
        CHECK.holds("made: term 4", x.term(4) > 0);
        sumThrows(x, 6);
    }

    private static void anEndThatIsShifted() {
        ClosedSums x = endBehind(60);
        CHECK.holds("at 60: term 60", x.term(60) > 0);
        x.shift(1);
        termThrows(x, 60);
        x.shift(59);
        termThrows(x, 1);
        CHECK.equal("at 0: sum 1", x.sum(1), 1);
        sumThrows(x, 2);
        x.shift(1);
        CHECK.holds("at -1: term 60", x.term(60) > 0);
        x.shift(-1);
        termThrows(x, 1);
    }

    private static void termsWithoutAnAnswer() {
        ClosedSums x = Plain.sums(new long[] {1, 1}, new long[] {1});
        CHECK.equal("n! run", x.run(), -1);
        CHECK.equal("n! term 0", x.term(0), 1);
        CHECK.equal("n! term 8", x.term(8), 8317);
        CHECK.equal("n! sum 4", x.sum(4), 10);
    }

    private static void numbersRoundTheEnd() {
        ClosedSums x = Plain.sums(new long[] {-1}, new long[] {1});
        CHECK.equal("term 59 of -1", x.term(59), 32002);
        CHECK.equal("term 60 of -1", x.term(60), 1);
        CHECK.equal("sum 59 of -1", x.sum(59), 1);
        CHECK.equal("sum 60 of -1", x.sum(60), 0);
        ClosedSums y = Plain.sums(new long[] {1}, new long[] {32002});
        CHECK.equal("term 59 of 1 through -1", y.term(59), 32002);
        CHECK.equal("sum 60 of 1 through -1", y.sum(60), 0);
    }
}
