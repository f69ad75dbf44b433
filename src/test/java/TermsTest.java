/** Promises 11 and 12: term and sum. */
public final class TermsTest {
    private static final Check CHECK = new Check();

    public static void main(String[] args) {
        ordinary();
        inAnyOrder();
        endsAtEveryPlace();
        zeroTopGoesOn();
        zeroSides();
        wrongPlaces();
        CHECK.end();
    }

    private static void ordinary() {
        ClosedSums x = Plain.sums(new long[] {1, 1}, new long[] {1});
        CHECK.equal("0!", x.term(0), 1);
        CHECK.equal("7!", x.term(7), 5040);
        CHECK.equal("8!", x.term(8), Plain.mod(40320));
        CHECK.equal("sum of none", x.sum(0), 0);
        CHECK.equal("sum of one", x.sum(1), 1);
        CHECK.equal("sum up to 7!", x.sum(8), 5914);
        x = Plain.sums(new long[] {1}, new long[] {3});
        CHECK.equal("a third", x.term(1), Plain.inverse(3));
    }

    private static void inAnyOrder() {
        ClosedSums up = Plain.sums(new long[] {3, 1, 4}, new long[] {2, 7, 1});
        ClosedSums down = Plain.sums(new long[] {3, 1, 4}, new long[] {2, 7, 1});
        long[] terms = new long[61];
        for (int n = 0; n <= 60; n++) {
            terms[n] = up.term(n);
        }
        for (int n = 60; n >= 0; n--) {
            CHECK.equal("term " + n, down.term(n), terms[n]);
            CHECK.equal("sum " + n, down.sum(n), up.sum(n));
        }
        Examiner.examine(CHECK, "terms", new long[] {3, 1, 4}, new long[] {2, 7, 1});
        ClosedSums fresh = Plain.sums(new long[] {3, 1, 4}, new long[] {2, 7, 1});
        CHECK.equal("sum first", fresh.sum(60), up.sum(60));
    }

    private static void endsAtEveryPlace() {
        for (int end = 0; end <= 62; end++) {
            long[] top = {5, 1};
            long[] bottom = Plain.ofRoots(2, end);
            ClosedSums x = Plain.sums(top, bottom);
            if (end < 60) {
                int place = end;
                CHECK.throwing("term behind the end", IllegalStateException.class, () -> x.term(place + 1));
            }
            CHECK.holds("term at the end", end > 60 || x.term(end) >= 0);
            CHECK.holds("sum behind the end", end > 59 || x.sum(end + 1) >= 0);
            Examiner.examine(CHECK, "end at " + end, top, bottom);
        }
    }

    /** Terms that have become 0 still end where the bottom is 0. */
    private static void zeroTopGoesOn() {
        long[] top = Plain.ofRoots(1, 3);
        long[] bottom = Plain.ofRoots(1, 10);
        ClosedSums x = Plain.sums(top, bottom);
        CHECK.equal("term 4", x.term(4), 0);
        CHECK.equal("term 10", x.term(10), 0);
        CHECK.throwing("term 11", IllegalStateException.class, () -> x.term(11));
        CHECK.equal("sum 11", x.sum(11), x.sum(4));
        CHECK.throwing("sum 12", IllegalStateException.class, () -> x.sum(12));
        Examiner.examine(CHECK, "0 and an end", top, bottom);
    }

    private static void zeroSides() {
        ClosedSums top = Plain.sums(new long[] {}, new long[] {1});
        CHECK.equal("top 0, term 0", top.term(0), 1);
        CHECK.equal("top 0, term 1", top.term(1), 0);
        CHECK.equal("top 0, term 60", top.term(60), 0);
        CHECK.equal("top 0, sum 60", top.sum(60), 1);
        ClosedSums bottom = Plain.sums(new long[] {1}, new long[] {});
        CHECK.equal("bottom 0, term 0", bottom.term(0), 1);
        CHECK.throwing("bottom 0, term 1", IllegalStateException.class, () -> bottom.term(1));
        CHECK.equal("bottom 0, sum 0", bottom.sum(0), 0);
        CHECK.equal("bottom 0, sum 1", bottom.sum(1), 1);
        CHECK.throwing("bottom 0, sum 2", IllegalStateException.class, () -> bottom.sum(2));
        bottom.put(false, 0, 2);
        CHECK.equal("bottom 2, term 1", bottom.term(1), Plain.inverse(2));
    }

    private static void wrongPlaces() {
        ClosedSums fine = new ClosedSums();
        ClosedSums ended = Plain.sums(new long[] {1}, new long[] {});
        for (ClosedSums x : new ClosedSums[] {fine, ended}) {
            for (int n : new int[] {-1, 61, 62, Integer.MIN_VALUE, Integer.MAX_VALUE}) {
                CHECK.throwing("term " + n, IndexOutOfBoundsException.class, () -> x.term(n));
                CHECK.throwing("sum " + n, IndexOutOfBoundsException.class, () -> x.sum(n));
            }
        }
        CHECK.equal("term 60", fine.term(60), 1);
        CHECK.equal("sum 60", fine.sum(60), 60);
    }
}
