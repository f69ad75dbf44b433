import java.util.Arrays;
import java.util.Random;

/**
 * Changes and questions in any order on one object, up to its 512th call: each question is
 * answered as by a new object that was asked for nothing else. The seed is fixed.
 */
public final class MixedCallsTest {
    private static final Check CHECK = new Check();
    private static final int LAST_CALL = 512;
    private static final int QUESTIONS = 10;

    private final Random random;
    private final ClosedSums x = new ClosedSums();
    private long[] top = {1, 0, 0, 0, 0};
    private long[] bottom = {1, 0, 0, 0, 0};
    private int calls = 0;

    private MixedCallsTest(Random random) {
        this.random = random;
    }

    public static void main(String[] args) {
        Random random = new Random(6);
        for (int object = 0; object < 40; object++) {
            MixedCallsTest test = new MixedCallsTest(random);
            while (test.calls < LAST_CALL) {
                test.change();
                for (int left = random.nextInt(12); left > 0 && test.calls < LAST_CALL; left--) {
                    test.ask();
                }
            }
        }
        CHECK.end();
    }

    private void change() {
        int kind = random.nextInt(10);
        if (kind < 5 && calls + 10 <= LAST_CALL) {
            putSides();
        } else if (kind < 7) {
            put(random.nextBoolean(), random.nextInt(5), random.nextInt(4) == 0 ? random.nextLong() : random.nextInt(3));
        } else if (kind < 9) {
            shift(random.nextInt(4) == 0 ? random.nextInt() : random.nextInt(9) - 4);
        } else {
            clear();
        }
    }

    /** Roots near each other, so that there is something to be found and often an answer. */
    private void putSides() {
        long[] roots = new long[random.nextInt(5)];
        long[] others = new long[roots.length];
        for (int i = 0; i < roots.length; i++) {
            roots[i] = random.nextInt(80) - 15;
            others[i] = roots[i] + random.nextInt(10);
        }
        long[] above = Plain.ofRoots(1 + random.nextInt(2), roots);
        long[] below = Plain.ofRoots(1, others);
        for (int power = 0; power <= 4; power++) {
            put(true, power, Plain.number(above, power));
            put(false, power, Plain.number(below, power));
        }
    }

    private void put(boolean above, int power, long v) {
        long[] side = above ? top : bottom;
        boolean another = side[power] != Plain.mod(v);
        side[power] = Plain.mod(v);
        calls++;
        CHECK.holds("call " + calls + ": put of " + v, x.put(above, power, v) == another);
    }

    private void shift(int k) {
        top = Arrays.copyOf(Plain.moved(top, k), 5);
        bottom = Arrays.copyOf(Plain.moved(bottom, k), 5);
        calls++;
        x.shift(k);
    }

    private void clear() {
        top = new long[] {1, 0, 0, 0, 0};
        bottom = top.clone();
        calls++;
        x.clear();
    }

    private void ask() {
        int question = random.nextInt(QUESTIONS);
        int number = random.nextInt(12) - 1;
        int place = random.nextInt(63) - 1;
        boolean above = random.nextBoolean();
        calls++;
        ClosedSums fresh = Plain.sums(top, bottom);
        String due = Answers.told(() -> answer(fresh, question, number, place, above));
        String got = Answers.told(() -> answer(x, question, number, place, above));
        CHECK.holds("call " + calls + ": question " + question + " with " + number + ", " + place + ", " + above
                + " on " + Arrays.toString(top) + " through " + Arrays.toString(bottom)
                + " answered " + got + ", due is " + due + ", which", got.equals(due));
    }

    private static long answer(ClosedSums asked, int question, int number, int place, boolean above) {
        return switch (question) {
            case 0 -> asked.at(above, number);
            case 1 -> asked.found(number);
            case 2 -> asked.degree(number);
            case 3 -> asked.split(place % 3, number);
            case 4 -> asked.run();
            case 5 -> asked.answer(number);
            case 6 -> asked.closed(above, number);
            case 7 -> asked.value(place);
            case 8 -> asked.term(place);
            default -> asked.sum(place);
        };
    }
}
