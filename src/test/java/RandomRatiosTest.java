import java.util.Random;

/** Promises 4 to 12 over many ratios, against the examiner's plain ways; the seeds are fixed. */
public final class RandomRatiosTest {
    private static final Check CHECK = new Check();

    public static void main(String[] args) {
        anyNumbers(new Random(1));
        smallNumbers(new Random(2));
        rootsNearEachOther(new Random(3));
        leadsThatCancel(new Random(4));
        severalOnOneObject(new Random(5));
        CHECK.end();
    }

    private static long[] polynomial(Random random, int bound) {
        long[] result = new long[1 + random.nextInt(5)];
        for (int i = 0; i < result.length; i++) {
            result[i] = random.nextInt(bound);
        }
        return Plain.degree(result) < 0 ? new long[] {1} : result;
    }

    private static void anyNumbers(Random random) {
        for (int i = 0; i < 60; i++) {
            Examiner.examine(CHECK, "any " + i, polynomial(random, 32003), polynomial(random, 32003));
        }
    }

    private static void smallNumbers(Random random) {
        for (int i = 0; i < 150; i++) {
            Examiner.examine(CHECK, "small " + i, polynomial(random, 3), polynomial(random, 3));
        }
    }

    private static long[] roots(Random random, int count, int bound) {
        long[] result = new long[count];
        for (int i = 0; i < count; i++) {
            result[i] = random.nextInt(bound) - bound / 2;
        }
        return result;
    }

    private static void rootsNearEachOther(Random random) {
        int answers = 0;
        int high = 0;
        for (int i = 0; i < 400; i++) {
            long lead = random.nextInt(3) == 0 ? 1 + random.nextInt(32002) : 1;
            int count = random.nextInt(5);
            int other = random.nextInt(3) == 0 ? random.nextInt(5) : count;
            int bound = 2 + random.nextInt(20);
            int degree = Examiner.examine(CHECK, "roots " + i,
                    Plain.ofRoots(lead, roots(random, count, bound)),
                    Plain.ofRoots(1 + random.nextInt(2), roots(random, other, bound)));
            answers += degree >= 0 ? 1 : 0;
            high += degree >= 8 ? 1 : 0;
        }
        CHECK.holds("many answers: " + answers, answers >= 100);
        CHECK.holds("many of a high degree: " + high, high >= 10);
    }

    /** The second power cancels too at a power of x up to 20. */
    private static void leadsThatCancel(Random random) {
        for (int i = 0; i < 100; i++) {
            int degree = 1 + random.nextInt(4);
            long[] top = new long[degree + 1];
            long[] bottomBefore = new long[degree + 1];
            for (int power = 0; power < degree; power++) {
                top[power] = random.nextInt(32003);
                bottomBefore[power] = random.nextInt(2) == 0 ? top[power] : random.nextInt(32003);
            }
            long lead = 1 + random.nextInt(32002);
            top[degree] = lead;
            bottomBefore[degree] = lead;
            bottomBefore[degree - 1] = Plain.mod(top[degree - 1] + lead * random.nextInt(22));
            Examiner.examine(CHECK, "cancel " + i, top, Plain.moved(bottomBefore, 1));
        }
    }

    /** Ten ratios on one object stay within its 512 calls. */
    private static void severalOnOneObject(Random random) {
        ClosedSums x = new ClosedSums();
        for (int i = 0; i < 60; i++) {
            if (i % 10 == 0) {
                x = new ClosedSums();
            }
            int count = random.nextInt(5);
            long[] top = Plain.ofRoots(1 + random.nextInt(2), roots(random, count, 9));
            long[] bottom = Plain.ofRoots(1, roots(random, count, 9));
            Plain.fill(x, top, bottom);
            Examiner.likeNew(CHECK, x, "one object " + i, top, bottom);
        }
    }
}
