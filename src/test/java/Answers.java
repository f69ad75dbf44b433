import java.util.ArrayList;
import java.util.List;
import java.util.function.LongSupplier;

/**
 * All that an object can be asked for, told as texts: two lists are equal if the objects can't be
 * told apart. Boundaries are asked for on both sides. One list takes 95 calls.
 */
final class Answers {
    private static final int[] POWERS = {-1, 0, 1, 2, 3, 4, 5};
    private static final int[] PLACES = {-1, 0, 1, 2, 3, 59, 60, 61};

    private final ClosedSums x;
    private final List<String> list = new ArrayList<>();

    private Answers(ClosedSums x) {
        this.x = x;
    }

    static List<String> of(ClosedSums x) {
        Answers answers = new Answers(x);
        answers.askSplit();
        answers.askSums();
        answers.askRatio();
        return answers.list;
    }

    private void add(String call, LongSupplier asked) {
        list.add(call + " " + told(asked));
    }

    static String told(LongSupplier asked) {
        try {
            return Long.toString(asked.getAsLong());
        } catch (RuntimeException e) {
            return e.getClass().getSimpleName();
        }
    }

    private void askSplit() {
        for (int h = -1; h <= 9; h++) {
            int shift = h;
            add("found " + h, () -> x.found(shift));
        }
        for (int which = -1; which <= 3; which++) {
            int part = which;
            add("degree " + which, () -> x.degree(part));
            for (int power : new int[] {0, 1, 4, 5}) {
                add("split " + which + " " + power, () -> x.split(part, power));
            }
        }
    }

    private void askSums() {
        add("run", x::run);
        for (int power : POWERS) {
            add("answer " + power, () -> x.answer(power));
            add("closed top " + power, () -> x.closed(true, power));
            add("closed bottom " + power, () -> x.closed(false, power));
        }
        for (long n : new long[] {-2, -1, 0, 1, 32003, Long.MIN_VALUE, Long.MAX_VALUE}) {
            add("value " + n, () -> x.value(n));
        }
        for (int n : PLACES) {
            add("term " + n, () -> x.term(n));
            add("sum " + n, () -> x.sum(n));
        }
    }

    private void askRatio() {
        for (int power : POWERS) {
            add("at top " + power, () -> x.at(true, power));
            add("at bottom " + power, () -> x.at(false, power));
        }
    }
}
