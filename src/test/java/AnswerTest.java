/** Promises 7 and 8: run and answer. */
public final class AnswerTest {
    private static final Check CHECK = new Check();

    public static void main(String[] args) {
        ordinary();
        noAnswer();
        theHighestDegreeOfSums();
        theHighestDegreeWithAFactor();
        aLateAnswerToASmallRightSide();
        freePowers();
        nothingIsLeftOfAnEarlierAnswer();
        CHECK.end();
    }

    private static void ordinary() {
        ClosedSums x = Plain.sums(new long[] {2}, new long[] {1});
        CHECK.equal("2^n run", x.run(), 0);
        CHECK.equal("2^n answer", x.answer(0), 1);
        // The term is n + 1: x(n + 1) - x(n) = n + 1, and the free power 0 has 0.
        x = Plain.sums(new long[] {2, 1}, new long[] {1, 1});
        CHECK.equal("n + 1 run", x.run(), 2);
        CHECK.equal("n + 1 answer 0", x.answer(0), 0);
        CHECK.equal("n + 1 answer 1", x.answer(1), 16002);
        CHECK.equal("n + 1 answer 2", x.answer(2), 16002);
    }

    private static void noAnswer() {
        ClosedSums x = Plain.sums(new long[] {1, 1}, new long[] {1});
        CHECK.equal("n! run", x.run(), -1);
        CHECK.throwing("n! answer", IllegalStateException.class, () -> x.answer(0));
        CHECK.throwing("n! answer", IllegalStateException.class, () -> x.answer(-1));
        CHECK.equal("n! run again", x.run(), -1);
        Examiner.examine(CHECK, "n!", new long[] {1, 1}, new long[] {1});
        x.put(true, 1, 0);
        CHECK.equal("run after n!", x.run(), 1);
    }

    /** Roots far apart, the i-th pair found at the i-th shift. */
    private static int pairs(String name, long lead, int... shifts) {
        long[] top = new long[shifts.length];
        long[] bottom = new long[shifts.length];
        for (int i = 0; i < shifts.length; i++) {
            top[i] = 1000 * (i + 1);
            bottom[i] = top[i] + shifts[i];
        }
        return Examiner.examine(CHECK, name, Plain.ofRoots(lead, top), Plain.ofRoots(1, bottom));
    }

    private static void theHighestDegreeOfSums() {
        CHECK.equal("c of degree 18", pairs("c of degree 18", 1, 5, 5, 5, 3), 19);
        CHECK.equal("c of degree 19", pairs("c of degree 19", 1, 5, 5, 5, 4), 20);
        CHECK.equal("c of degree 20", pairs("c of degree 20", 1, 5, 5, 5, 5), -1);
        CHECK.equal("c of degree 32", pairs("c of degree 32", 1, 8, 8, 8, 8), -1);
    }

    private static void theHighestDegreeWithAFactor() {
        CHECK.equal("2^n, c of degree 20", pairs("2^n, c of degree 20", 2, 8, 8, 4), 20);
        CHECK.equal("2^n, c of degree 21", pairs("2^n, c of degree 21", 2, 8, 8, 5), -1);
        CHECK.equal("2^n, c of degree 24", pairs("2^n, c of degree 24", 2, 8, 8, 8), -1);
    }

    /** The highest powers cancel at just one power of x, which alone can give a number. */
    private static void aLateAnswerToASmallRightSide() {
        for (int late : new int[] {0, 1, 2, 3, 7, 12, 19, 20, 21}) {
            long[] top = {7, 100, 1};
            long[] bottomBefore = {11, 100 + late, 1};
            int degree = Examiner.examine(CHECK, "late " + late, top, Plain.moved(bottomBefore, 1));
            CHECK.equal("late " + late, degree, late > 20 ? -1 : late);
        }
    }

    /** Here power free has a polynomial that comes to 0, and the answer is of a higher degree. */
    private static void freePowers() {
        int[][] cases = {{1, 1, 2, 24508}, {1, 4, 6, 11338}, {1, 3, 8, 10379}, {14, 8, 8, 3043}};
        for (int[] one : cases) {
            int free = one[0];
            long[] top = Plain.ofRoots(1, -3, -15000 - one[2], -one[3] - one[1]);
            long[] bottom = Plain.ofRoots(1, -4 - free, -15000, -one[3]);
            int degree = Examiner.examine(CHECK, "free " + free, top, bottom);
            CHECK.equal("degree with free " + free, degree, one[1] + one[2]);
            CHECK.equal("answer at free " + free, Plain.sums(top, bottom).answer(free), 0);
        }
    }

    /** A late answer mixes many powers; what comes after it on the same object must not. */
    private static void nothingIsLeftOfAnEarlierAnswer() {
        ClosedSums x = new ClosedSums();
        for (int late : new int[] {5, 20, 12, 1}) {
            Plain.fill(x, new long[] {7, 100, 1}, Plain.moved(new long[] {11, 100 + late, 1}, 1));
            CHECK.equal("late " + late, x.run(), late);
            long[] top = Plain.ofRoots(1, 1000, 2000, 3000);
            long[] bottom = Plain.ofRoots(1, 1008, 2008, 3003);
            Plain.fill(x, top, bottom);
            ClosedSums fresh = Plain.sums(top, bottom);
            for (int power = 0; power <= 20; power++) {
                CHECK.equal("answer after late " + late, x.answer(power), fresh.answer(power));
            }
        }
    }
}
