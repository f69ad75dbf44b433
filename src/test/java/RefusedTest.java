import java.util.ArrayList;
import java.util.List;

/**
 * A refused call throws the exception that stands first behind "throws", and nothing changes:
 * neither for an object that was asked for nothing before nor for one that was asked for all.
 */
public final class RefusedTest {
    private static final Check CHECK = new Check();
    private static final Class<IndexOutOfBoundsException> INDEX = IndexOutOfBoundsException.class;
    private static final Class<IllegalStateException> STATE = IllegalStateException.class;
    private static final Class<IllegalArgumentException> ARGUMENT = IllegalArgumentException.class;

    private static final long[][][] WITH_ZERO = {{{}, {1, 1}}, {{1, 1}, {}}, {{}, {}}};
    private static final long[][][] NO_ANSWER = {{{1, 1}, {1}}, {{1}, {1, 1}}};
    private static final long[][][] ANSWER = {{{1}, {1}}, {{4, 2}, {1, 1}}, {{4, 4, 1}, {1, 2, 1}}};
    private static final int[] EXTREMES = {Integer.MIN_VALUE, Integer.MAX_VALUE};

    /** A call that is refused, and by which exception. */
    private record Refusal(String name, Class<? extends RuntimeException> due, Call call) {
    }

    private interface Call {
        void on(ClosedSums x);
    }

    public static void main(String[] args) {
        for (long[][] ratio : ANSWER) {
            refuse(ratio, wrongPowersAndPlaces());
            refuse(ratio, wrongShiftsAndParts(ARGUMENT));
        }
        for (long[][] ratio : NO_ANSWER) {
            refuse(ratio, wrongPowersAndPlaces());
            refuse(ratio, wrongShiftsAndParts(ARGUMENT));
            refuse(ratio, askingForTheAnswer());
        }
        for (long[][] ratio : WITH_ZERO) {
            refuse(ratio, wrongPowersAndPlaces());
            refuse(ratio, wrongShiftsAndParts(STATE));
            refuse(ratio, askingForTheSplit());
            refuse(ratio, askingForTheAnswer());
        }
        for (int end = 0; end <= 57; end += 19) {
            long[][] ratio = {{3, 1}, Plain.ofRoots(1, end)};
            refuse(ratio, wrongPowersAndPlaces());
            refuse(ratio, askingBehindTheEnd(end));
        }
        answersChangeNothing();
        CHECK.end();
    }

    private static void refuse(long[][] ratio, List<Refusal> refusals) {
        List<String> due = Answers.of(Plain.sums(ratio[0], ratio[1]));
        for (Refusal refusal : refusals) {
            ClosedSums unasked = Plain.sums(ratio[0], ratio[1]);
            CHECK.throwing(refusal.name, refusal.due, () -> refusal.call.on(unasked));
            CHECK.same(refusal.name + " changes nothing", Answers.of(unasked), due);
            CHECK.throwing(refusal.name + " later", refusal.due, () -> refusal.call.on(unasked));
            CHECK.same(refusal.name + " changes nothing later", Answers.of(unasked), due);
        }
    }

    private static List<Refusal> wrongPowersAndPlaces() {
        List<Refusal> list = new ArrayList<>();
        for (int power : with(EXTREMES, -1, 5)) {
            for (boolean top : new boolean[] {true, false}) {
                list.add(new Refusal("put at " + power, INDEX, x -> x.put(top, power, 9)));
                list.add(new Refusal("put of 0 at " + power, INDEX, x -> x.put(top, power, 0)));
                list.add(new Refusal("at " + power, INDEX, x -> x.at(top, power)));
            }
        }
        for (int n : with(EXTREMES, -1, 61)) {
            list.add(new Refusal("term " + n, INDEX, x -> x.term(n)));
            list.add(new Refusal("sum " + n, INDEX, x -> x.sum(n)));
        }
        return list;
    }

    private static List<Refusal> wrongShiftsAndParts(Class<? extends RuntimeException> due) {
        List<Refusal> list = new ArrayList<>();
        for (int h : with(EXTREMES, -1, 9)) {
            list.add(new Refusal("found " + h, due, x -> x.found(h)));
        }
        for (int which : with(EXTREMES, -1, 3)) {
            list.add(new Refusal("degree " + which, due, x -> x.degree(which)));
            for (int power : with(EXTREMES, 0, -1, 33)) {
                list.add(new Refusal("split " + which + " " + power, due, x -> x.split(which, power)));
            }
        }
        return list;
    }

    private static List<Refusal> askingForTheSplit() {
        List<Refusal> list = new ArrayList<>();
        for (int h : new int[] {0, 8}) {
            list.add(new Refusal("found " + h, STATE, x -> x.found(h)));
        }
        for (int which : new int[] {0, 1, 2}) {
            list.add(new Refusal("degree " + which, STATE, x -> x.degree(which)));
            for (int power : with(EXTREMES, 0, -1, 33)) {
                list.add(new Refusal("split " + which + " " + power, STATE, x -> x.split(which, power)));
            }
        }
        list.add(new Refusal("run", STATE, x -> x.run()));
        return list;
    }

    private static List<Refusal> askingForTheAnswer() {
        List<Refusal> list = new ArrayList<>();
        for (int power : with(EXTREMES, -1, 0, 20, 21)) {
            list.add(new Refusal("answer " + power, STATE, x -> x.answer(power)));
            list.add(new Refusal("closed top " + power, STATE, x -> x.closed(true, power)));
            list.add(new Refusal("closed bottom " + power, STATE, x -> x.closed(false, power)));
        }
        for (long n : new long[] {0, -1, 32003, Long.MIN_VALUE, Long.MAX_VALUE}) {
            list.add(new Refusal("value " + n, STATE, x -> x.value(n)));
        }
        return list;
    }

    private static List<Refusal> askingBehindTheEnd(int end) {
        List<Refusal> list = new ArrayList<>();
        for (int n : new int[] {end + 1, end + 2, 60}) {
            list.add(new Refusal("term " + n, STATE, x -> x.term(n)));
        }
        for (int n : new int[] {end + 2, end + 3, 60}) {
            list.add(new Refusal("sum " + n, STATE, x -> x.sum(n)));
        }
        return list;
    }

    private static int[] with(int[] some, int... more) {
        int[] all = java.util.Arrays.copyOf(some, some.length + more.length);
        System.arraycopy(more, 0, all, some.length, more.length);
        return all;
    }

    /** Asked twice or the other way round, and after a put of the number that is there. */
    private static void answersChangeNothing() {
        for (long[][][] ratios : new long[][][][] {ANSWER, NO_ANSWER, WITH_ZERO}) {
            for (long[][] ratio : ratios) {
                ClosedSums x = Plain.sums(ratio[0], ratio[1]);
                List<String> due = Answers.of(x);
                CHECK.same("asked again", Answers.of(x), due);
                for (int power = 0; power <= 4; power++) {
                    x.put(true, power, Plain.number(ratio[0], power) - 32003);
                    x.put(false, power, Plain.number(ratio[1], power) + 32003);
                }
                CHECK.same("after puts of the same", Answers.of(x), due);
                ClosedSums y = Plain.sums(ratio[0], ratio[1]);
                Answers.told(() -> y.sum(60));
                Answers.told(() -> y.value(3));
                Answers.told(() -> y.found(3));
                CHECK.same("asked from the other end", Answers.of(y), due);
            }
        }
    }
}
