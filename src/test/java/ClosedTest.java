/** Promises 9 and 10: closed and value. */
public final class ClosedTest {
    private static final Check CHECK = new Check();

    public static void main(String[] args) {
        ordinary();
        lowestTerms();
        valuesAtAnyPlace();
        sumsByTheValue();
        CHECK.end();
    }

    private static void closedIs(String what, ClosedSums x, long[] top, long[] bottom) {
        for (int power = 0; power < 40; power++) {
            CHECK.equal(what + " top " + power, x.closed(true, power), Plain.number(top, power));
            CHECK.equal(what + " bottom " + power, x.closed(false, power), Plain.number(bottom, power));
        }
    }

    private static void ordinary() {
        closedIs("1", new ClosedSums(), new long[] {0, 1}, new long[] {1});
        closedIs("2^n", Plain.sums(new long[] {2}, new long[] {1}), new long[] {1}, new long[] {1});
        closedIs("(5/3)^n", Plain.sums(new long[] {5}, new long[] {3}), new long[] {16003}, new long[] {1});
        // The sum of 1 / ((n + 1) (n + 2)) is n / (n + 1) less a number: -(n + 2) times the term.
        closedIs("1 / (n + 1) (n + 2)", Plain.sums(Plain.ofRoots(1, -1), Plain.ofRoots(1, -3)),
                new long[] {-2, -1}, new long[] {1});
    }

    private static void lowestTerms() {
        // n (n + 1) / 2 through n + 1.
        ClosedSums x = Plain.sums(new long[] {2, 1}, new long[] {1, 1});
        closedIs("n + 1", x, new long[] {0, 16002}, new long[] {1});
        CHECK.equal("n + 1 at -1", x.value(-1), 16001);
        ClosedSums square = Plain.sums(new long[] {4, 4, 1}, new long[] {1, 2, 1});
        // n (n + 1) (2 n + 1) / 6 through (n + 1)^2.
        long sixth = Plain.inverse(6);
        closedIs("(n + 1)^2", square, new long[] {0, sixth, 2 * sixth}, new long[] {1, 1});
        CHECK.equal("(n + 1)^2 at -1", square.value(-1), -1);
        CHECK.equal("(n + 1)^2 at 3", square.value(3), Plain.mod(14 * Plain.inverse(16)));
    }

    private static void valuesAtAnyPlace() {
        ClosedSums x = new ClosedSums();
        CHECK.equal("value 5", x.value(5), 5);
        CHECK.equal("value -1", x.value(-1), 32002);
        CHECK.equal("value 32003", x.value(32003), 0);
        CHECK.equal("value 2^32", x.value(4294967296L), Plain.mod(4294967296L));
        CHECK.equal("value of the least", x.value(Long.MIN_VALUE), Plain.mod(Long.MIN_VALUE));
        CHECK.equal("value of the greatest", x.value(Long.MAX_VALUE), Plain.mod(Long.MAX_VALUE));
        ClosedSums poles = Plain.sums(Plain.ofRoots(3, -4), Plain.ofRoots(1, -2));
        Examiner.examine(CHECK, "poles", Plain.ofRoots(3, -4), Plain.ofRoots(1, -2));
        for (long round = -2; round <= 2; round++) {
            CHECK.equal("pole at -2", poles.value(-2 + 32003 * round), -1);
            CHECK.equal("pole at -3", poles.value(-3 + 32003 * round), -1);
            CHECK.holds("no pole at -4", poles.value(-4 + 32003 * round) >= 0);
        }
    }

    private static void sumsByTheValue() {
        ClosedSums x = Plain.sums(Plain.ofRoots(7, -5, -9), Plain.ofRoots(2, -3, -8));
        CHECK.holds("an answer", x.run() >= 0);
        for (int n = 0; n <= 60; n++) {
            long due = Plain.mod((long) x.value(n) * x.term(n) - (long) x.value(0) * x.term(0));
            CHECK.equal("sum by value " + n, x.sum(n), due);
        }
    }
}
