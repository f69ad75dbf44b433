/** Promises 4, 5 and 6: found, degree and split. */
public final class SplitTest {
    private static final Check CHECK = new Check();

    public static void main(String[] args) {
        ordinary();
        everyShift();
        shiftNineIsNotFound();
        severalShiftsInTurn();
        theLeastShiftTakesFirst();
        leadsStay();
        factorsWithoutRoots();
        theLongestExtra();
        CHECK.end();
    }

    private static void splitIs(String what, ClosedSums x, int which, long... numbers) {
        CHECK.equal(what + " degree " + which, x.degree(which), numbers.length - 1);
        for (int power = 0; power < numbers.length; power++) {
            CHECK.equal(what + " split " + which + " " + power, x.split(which, power), Plain.mod(numbers[power]));
        }
    }

    private static void foundAre(String what, ClosedSums x, int... degrees) {
        for (int h = 0; h <= 8; h++) {
            CHECK.equal(what + " found " + h, x.found(h), h < degrees.length ? degrees[h] : 0);
        }
    }

    private static void ordinary() {
        ClosedSums x = Plain.sums(new long[] {2, 1}, new long[] {1, 1});
        foundAre("(n + 2) / (n + 1)", x, 0, 1);
        splitIs("(n + 2) / (n + 1)", x, 0, 1);
        splitIs("(n + 2) / (n + 1)", x, 1, 1);
        splitIs("(n + 2) / (n + 1)", x, 2, 1, 1);
    }

    private static void everyShift() {
        for (int h = 0; h <= 8; h++) {
            ClosedSums x = Plain.sums(new long[] {100 + h, 1}, new long[] {100, 1});
            int[] due = new int[h + 1];
            due[h] = 1;
            foundAre("shift " + h, x, due);
            long[] roots = new long[h];
            for (int i = 0; i < h; i++) {
                roots[i] = -100 - i;
            }
            splitIs("shift " + h, x, 0, 1);
            splitIs("shift " + h, x, 1, 1);
            splitIs("shift " + h, x, 2, Plain.ofRoots(1, roots));
        }
    }

    private static void shiftNineIsNotFound() {
        ClosedSums x = Plain.sums(new long[] {9, 1}, new long[] {0, 1});
        foundAre("shift 9", x);
        splitIs("shift 9", x, 0, 9, 1);
        splitIs("shift 9", x, 1, 0, 1);
        splitIs("shift 9", x, 2, 1);
        ClosedSums back = Plain.sums(new long[] {0, 1}, new long[] {1, 1});
        foundAre("shift -1", back);
        splitIs("shift -1", back, 2, 1);
        ClosedSums round = Plain.sums(new long[] {1, 1}, new long[] {32000, 1});
        foundAre("shift 4 round the end", round, 0, 0, 0, 0, 1);
    }

    private static void severalShiftsInTurn() {
        ClosedSums x = Plain.sums(Plain.ofRoots(1, -5, -6), Plain.ofRoots(1, -3, -4));
        foundAre("two of two", x, 0, 1, 0, 1);
        Examiner.examine(CHECK, "two of two", Plain.ofRoots(1, -5, -6), Plain.ofRoots(1, -3, -4));
        ClosedSums same = Plain.sums(Plain.ofRoots(1, 7, 7, 7, 7), Plain.ofRoots(1, 7, 7, 9, 10));
        foundAre("four", same, 2, 0, 1, 1);
        splitIs("four", same, 0, 1);
        splitIs("four", same, 1, 1);
        splitIs("four", same, 2, Plain.ofRoots(1, 8, 9, 8, 9, 10));
    }

    private static void theLeastShiftTakesFirst() {
        ClosedSums x = Plain.sums(Plain.ofRoots(1, 0), Plain.ofRoots(1, 2, 5));
        foundAre("two to choose from", x, 0, 0, 1);
        splitIs("two to choose from", x, 1, -5, 1);
        splitIs("two to choose from", x, 2, Plain.ofRoots(1, 1, 2));
    }

    private static void leadsStay() {
        ClosedSums x = Plain.sums(Plain.ofRoots(5, -1, 50), Plain.ofRoots(31000, 0));
        foundAre("leads", x, 0, 1);
        splitIs("leads", x, 0, -250, 5);
        splitIs("leads", x, 1, 31000);
        splitIs("leads", x, 2, 0, 1);
    }

    private static void factorsWithoutRoots() {
        // -1 is no square modulo 32003, so n^2 + 1 has no root.
        long[] factor = {1, 0, 1};
        ClosedSums x = Plain.sums(Plain.moved(factor, 3), factor);
        foundAre("n^2 + 1", x, 0, 0, 0, 2);
        splitIs("n^2 + 1", x, 2,
                Plain.times(Plain.times(Plain.moved(factor, 2), Plain.moved(factor, 1)), factor));
        Examiner.examine(CHECK, "(n^2 + 1) n", Plain.times(factor, Plain.ofRoots(4, 3)),
                Plain.times(Plain.moved(factor, -2), Plain.ofRoots(1, 4)));
    }

    private static void theLongestExtra() {
        long[] top = Plain.ofRoots(3, 1000, 2000, 3000, 4000);
        long[] bottom = Plain.ofRoots(7, 1008, 2008, 3008, 4008);
        ClosedSums x = Plain.sums(top, bottom);
        foundAre("longest", x, 0, 0, 0, 0, 0, 0, 0, 0, 4);
        CHECK.equal("longest degree", x.degree(2), 32);
        CHECK.equal("longest highest", x.split(2, 32), 1);
        CHECK.equal("longest beyond", x.split(2, 33), 0);
        Examiner.examine(CHECK, "longest", top, bottom);
        Examiner.examine(CHECK, "longest of one root", Plain.ofRoots(1, 5, 5, 5, 5), Plain.ofRoots(1, 13, 13, 13, 13));
    }
}
