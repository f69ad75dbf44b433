/** Promises 1, 2, 3, 13 and 14: the ratio itself. */
public final class RatioTest {
    private static final Check CHECK = new Check();

    public static void main(String[] args) {
        aNewObjectHasTheRatioOne();
        putTellsWhetherTheNumberIsAnother();
        shiftMovesBothSides();
        shiftTakesAnyDistance();
        shiftMovesTermsAndSplit();
        clearGoesBackToOne();
        changesAreSeenEverywhere();
        CHECK.end();
    }

    private static void ratioIs(String what, ClosedSums x, long[] top, long[] bottom) {
        for (int power = 0; power <= 4; power++) {
            CHECK.equal(what + " at top " + power, x.at(true, power), Plain.number(top, power));
            CHECK.equal(what + " at bottom " + power, x.at(false, power), Plain.number(bottom, power));
        }
    }

    private static void aNewObjectHasTheRatioOne() {
        ClosedSums x = new ClosedSums();
        ratioIs("new", x, new long[] {1}, new long[] {1});
        Examiner.likeNew(CHECK, x, "new", new long[] {1}, new long[] {1});
        CHECK.equal("new run", x.run(), 1);
        CHECK.equal("new term", x.term(60), 1);
        CHECK.equal("new sum", x.sum(60), 60);
    }

    private static void putTellsWhetherTheNumberIsAnother() {
        ClosedSums x = new ClosedSums();
        CHECK.holds("put of the same", !x.put(true, 0, 1));
        CHECK.holds("put of another", x.put(true, 0, 7));
        CHECK.holds("put of 7 again", !x.put(true, 0, 7));
        CHECK.holds("put below", x.put(false, 4, 9));
        CHECK.holds("put of 0 where 0 is", !x.put(false, 3, 0));
        CHECK.holds("put of 0 where 9 is", x.put(false, 4, 0));
        ratioIs("put", x, new long[] {7}, new long[] {1});
    }

    private static void shiftMovesBothSides() {
        ClosedSums x = Plain.sums(new long[] {0, 0, 1}, new long[] {5, 0, 0, 0, 1});
        x.shift(2);
        ratioIs("shift by 2", x, new long[] {4, 4, 1}, new long[] {21, 32, 24, 8, 1});
        x.shift(-2);
        ratioIs("and back", x, new long[] {0, 0, 1}, new long[] {5, 0, 0, 0, 1});
        x.shift(-1);
        ratioIs("shift by -1", x, new long[] {1, -2, 1}, new long[] {6, -4, 6, -4, 1});
    }

    private static void shiftTakesAnyDistance() {
        int[] distances = {0, 1, -1, 32003, -32003, 32002, 100000, Integer.MIN_VALUE, Integer.MAX_VALUE};
        long[] top = {3, 32002, 17, 4000, 31999};
        long[] bottom = {1, 2, 0, 5};
        for (int k : distances) {
            ClosedSums x = Plain.sums(top, bottom);
            x.shift(k);
            ratioIs("shift by " + k, x, Plain.moved(top, k), Plain.moved(bottom, k));
        }
        ClosedSums zero = Plain.sums(new long[] {}, new long[] {1, 1});
        zero.shift(3);
        ratioIs("shift of 0", zero, new long[] {}, new long[] {4, 1});
    }

    private static void shiftMovesTermsAndSplit() {
        long[] top = {4, 4, 1};
        long[] bottom = {0, 0, 1};
        ClosedSums x = Plain.sums(top, bottom);
        Examiner.likeNew(CHECK, x, "before shift", top, bottom);
        x.shift(2);
        Examiner.likeNew(CHECK, x, "after shift", Plain.moved(top, 2), Plain.moved(bottom, 2));
    }

    private static void clearGoesBackToOne() {
        ClosedSums x = Plain.sums(new long[] {2, 1, 3, 1, 4}, new long[] {0, 1, 0, 7, 9});
        x.run();
        x.term(0);
        x.clear();
        ratioIs("clear", x, new long[] {1}, new long[] {1});
        Examiner.likeNew(CHECK, x, "after clear", new long[] {1}, new long[] {1});
        ClosedSums zero = Plain.sums(new long[] {}, new long[] {});
        zero.clear();
        CHECK.equal("run after clear of 0", zero.run(), 1);
    }

    /** Answers that were told before a put must not outlive it. */
    private static void changesAreSeenEverywhere() {
        ClosedSums x = new ClosedSums();
        long[] bottom = {1, 1};
        for (long number = 1; number <= 6; number++) {
            long[] top = {number, number % 2};
            Plain.fill(x, top, bottom);
            Examiner.likeNew(CHECK, x, "after put of " + number, top, bottom);
        }
        for (int power = 0; power <= 4; power++) {
            long[] lower = new long[power + 1];
            lower[0] = 3;
            lower[power] = 1;
            Plain.fill(x, new long[] {3}, lower);
            Examiner.likeNew(CHECK, x, "bottom with power " + power, new long[] {3}, lower);
        }
    }
}
