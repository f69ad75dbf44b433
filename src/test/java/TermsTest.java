/** Promises 11 and 12: term and sum. */
public final class TermsTest {
    private static final Check CHECK = new Check();

    public static void main(String[] args) {
        ordinary();
        inAnyOrder();
        endsAtEveryPlace();
        zeroTopGoesOn();
        CHECK.end();
    }

    private static void ordinary() {
        ClosedSums x = Plain.sums(new long[] {1, 1}, new long[] {1});
        CHECK.equal("0!", x.term(0), 1);
        CHECK.equal("7!", x.term(7), 5040);
        CHECK.equal("8!", x.term(8), Plain.mod(40320));
        CHECK.equal("sum of none", x.sum(0), 0);
        CHECK.equal("sum of one", x.sum(1), 1);
        CHECK.equal("sum up to 7!", x.sum(8), 5914);
        x = Plain.sums(new long[] {1}, new long[] {3});
        CHECK.equal("a third", x.term(1), Plain.inverse(3));
    }

    private static void inAnyOrder() {
        ClosedSums up = Plain.sums(new long[] {3, 1, 4}, new long[] {2, 7, 1});
        ClosedSums down = Plain.sums(new long[] {3, 1, 4}, new long[] {2, 7, 1});
        long[] terms = new long[61];
        for (int n = 0; n <= 60; n++) {
            terms[n] = up.term(n);
        }
        for (int n = 60; n >= 0; n--) {
            CHECK.equal("term " + n, down.term(n), terms[n]);
            CHECK.equal("sum " + n, down.sum(n), up.sum(n));
        }
        Examiner.examine(CHECK, "terms", new long[] {3, 1, 4}, new long[] {2, 7, 1});
        ClosedSums fresh = Plain.sums(new long[] {3, 1, 4}, new long[] {2, 7, 1});
        CHECK.equal("sum first", fresh.sum(60), up.sum(60));
    }

    private static void endsAtEveryPlace() {
        for (int end = 0; end <= 62; end++) {
            long[] top = {5, 1};
            long[] bottom = Plain.ofRoots(2, end);
            ClosedSums x = Plain.sums(top, bottom);
            if (end < 60) {
                int place = end;
                CHECK.throwing("term behind the end", IllegalStateException.class, () -> x.term(place + 1));
            }
            CHECK.holds("term at the end", end > 60 || x.term(end) >= 0);
            CHECK.holds("sum behind the end", end > 59 || x.sum(end + 1) >= 0);
            Examiner.examine(CHECK, "end at " + end, top, bottom);
        }
    }

    /** Terms that have become 0 still end where the bottom is 0. */
    private static void zeroTopGoesOn() {
        long[] top = Plain.ofRoots(1, 3);
        long[] bottom = Plain.ofRoots(1, 10);
        ClosedSums x = Plain.sums(top, bottom);
        CHECK.equal("term 4", x.term(4), 0);
        CHECK.equal("term 10", x.term(10), 0);
        CHECK.throwing("term 11", IllegalStateException.class, () -> x.term(11));
        CHECK.equal("sum 11", x.sum(11), x.sum(4));
        CHECK.throwing("sum 12", IllegalStateException.class, () -> x.sum(12));
        Examiner.examine(CHECK, "0 and an end", top, bottom);
    }
}
