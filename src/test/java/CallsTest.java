import java.util.List;

/** An object answers as it should up to its 512th call. */
public final class CallsTest {
    private static final Check CHECK = new Check();
    private static final int CALLS = 512;
    private static final int LAST = 95;

    public static void main(String[] args) {
        changesOnly();
        changesAndAnswers();
        refusedCalls();
        termsUpAndDown();
        theLast();
        CHECK.end();
    }

    /** Whatever came before, the last calls of the 512 tell what a new object would. */
    private static void askTheLast(String name, ClosedSums x, long[] top, long[] bottom) {
        List<String> due = Answers.of(Plain.sums(top, bottom));
        CHECK.equal("calls of a list", due.size(), LAST);
        CHECK.same(name, Answers.of(x), due);
    }

    private static void changesOnly() {
        ClosedSums x = new ClosedSums();
        for (int i = 0; i < CALLS - LAST - 4; i++) {
            CHECK.holds("put " + i, x.put(i % 2 == 0, i / 2 % 5, 2L + i));
        }
        x.clear();
        x.put(true, 0, 2);
        x.put(true, 1, 1);
        x.put(false, 1, 1);
        askTheLast("after many puts", x, new long[] {2, 1}, new long[] {1, 1});
    }

    private static void changesAndAnswers() {
        ClosedSums x = new ClosedSums();
        x.put(true, 1, 1);
        int calls = 1;
        // Each round has 4 calls and leaves the ratio one place further on.
        for (int round = 1; calls + 4 + LAST <= CALLS; round++) {
            x.shift(1);
            CHECK.equal("n at round " + round, x.at(true, 0), 1 + round);
            CHECK.equal("no answer at round " + round, x.run(), -1);
            CHECK.equal("term at round " + round, x.term(2), Plain.mod((1L + round) * (2 + round)));
            calls += 4;
        }
        long start = 1 + (CALLS - LAST - 1) / 4;
        askTheLast("after many rounds", x, new long[] {start, 1}, new long[] {1});
    }

    private static void refusedCalls() {
        ClosedSums x = new ClosedSums();
        for (int i = 0; i < CALLS - LAST; i++) {
            int power = 5 + i;
            CHECK.throwing("refused " + i, IndexOutOfBoundsException.class, () -> x.put(true, power, 3));
        }
        askTheLast("after many refused calls", x, new long[] {1}, new long[] {1});
    }

    private static void termsUpAndDown() {
        ClosedSums x = new ClosedSums();
        x.put(true, 0, 2);
        for (int i = 0; i < CALLS - LAST - 1; i++) {
            int n = i % 2 == 0 ? i % 61 : 60 - i % 61;
            CHECK.equal("sum " + n, x.sum(n), Plain.mod((1L << n) - 1));
        }
        askTheLast("after many sums", x, new long[] {2}, new long[] {1});
    }

    private static void theLast() {
        ClosedSums x = new ClosedSums();
        for (int i = 1; i < CALLS; i++) {
            x.put(false, 0, i + 1);
        }
        CHECK.equal("the last call", x.at(false, 0), CALLS);
    }
}
