/** The boundaries that promises 1, 2, 3, 13 and 14 name. */
public final class RatioEdgesTest {
    private static final Check CHECK = new Check();
    private static final int[] POWERS_OUTSIDE = {-1, 5, -2, 6, Integer.MIN_VALUE, Integer.MAX_VALUE};
    private static final boolean[] SIDES = {true, false};

    /** Longs, and the numbers that they are modulo 32003. */
    private static final long[][] NUMBERS = {
        {0, 0}, {1, 1}, {32002, 32002}, {32003, 0}, {32004, 1}, {64005, 32002}, {64006, 0},
        {-1, 32002}, {-32002, 1}, {-32003, 0}, {-32004, 32002},
        {Integer.MIN_VALUE, 13661}, {Integer.MAX_VALUE, 18341}, {2147483648L, 18342}, {4294967296L, 4681},
        {Long.MIN_VALUE, 5147}, {Long.MIN_VALUE + 1, 5148}, {Long.MAX_VALUE, 26855}, {Long.MAX_VALUE - 1, 26854}};

    public static void main(String[] args) {
        aNewObjectIsOneAtPowerZeroAlone();
        objectsShareNothing();
        putAtEveryPower();
        putRefusesPowersOutside();
        putOfEveryKindOfNumber();
        putOfTheSameNumberInAnotherForm();
        putOfNeighboursIsAnother();
        putMakesASideZeroAndEndsIt();
        atRefusesPowersOutside();
        atIsAnsweredForSidesThatAreZero();
        shiftOfEveryKindOfDistance();
        shiftByNothing();
        shiftForthAndBack();
        shiftRoundTheEnd();
        shiftOfSidesThatAreZero();
        shiftOfNumbersAlone();
        clearOfANewObject();
        clearOfSidesThatAreZero();
        clearOfFullSides();
        CHECK.end();
    }

    private static void ratioIs(String what, ClosedSums x, long[] top, long[] bottom) {
        for (int power = 0; power <= 4; power++) {
            CHECK.equal(what + " at top " + power, x.at(true, power), Plain.number(top, power));
            CHECK.equal(what + " at bottom " + power, x.at(false, power), Plain.number(bottom, power));
        }
    }

    private static void likeNew(String what, ClosedSums x) {
        CHECK.same(what + " is like new", Answers.of(x), Answers.of(new ClosedSums()));
    }

    private static void aNewObjectIsOneAtPowerZeroAlone() {
        ratioIs("new", new ClosedSums(), new long[] {1, 0, 0, 0, 0}, new long[] {1, 0, 0, 0, 0});
        ClosedSums x = new ClosedSums();
        for (int power = 0; power <= 4; power++) {
            CHECK.holds("new top has " + power, !x.put(true, power, power == 0 ? 1 : 0));
            CHECK.holds("new bottom has " + power, !x.put(false, power, power == 0 ? 1 : 0));
        }
    }

    private static void objectsShareNothing() {
        ClosedSums one = new ClosedSums();
        ClosedSums other = new ClosedSums();
        one.put(true, 1, 1);
        one.put(false, 0, 0);
        likeNew("an object beside another", other);
        likeNew("an object made after another", new ClosedSums());
    }

    private static void putAtEveryPower() {
        for (boolean top : SIDES) {
            for (int power = 0; power <= 4; power++) {
                ClosedSums x = new ClosedSums();
                CHECK.holds("put at " + top + power, x.put(top, power, 32002));
                for (int other = 0; other <= 4; other++) {
                    int old = other == 0 ? 1 : 0;
                    CHECK.equal("put at " + top + power + ", at " + other, x.at(top, other), other == power ? 32002 : old);
                    CHECK.equal("put at " + top + power + ", other side " + other, x.at(!top, other), old);
                }
            }
        }
    }

    private static void putRefusesPowersOutside() {
        ClosedSums x = new ClosedSums();
        for (int power : POWERS_OUTSIDE) {
            for (boolean top : SIDES) {
                for (long v : new long[] {0, 1, Long.MIN_VALUE, Long.MAX_VALUE}) {
                    CHECK.throwing("put " + top + power, IndexOutOfBoundsException.class, () -> x.put(top, power, v));
                }
            }
        }
        likeNew("after refused puts", x);
    }

    private static void putOfEveryKindOfNumber() {
        for (boolean top : SIDES) {
            for (int power = 0; power <= 4; power++) {
                ClosedSums x = new ClosedSums();
                long before = power == 0 ? 1 : 0;
                for (long[] number : NUMBERS) {
                    CHECK.holds("put of " + number[0] + " over " + before, x.put(top, power, number[0]) == (before != number[1]));
                    CHECK.equal("put of " + number[0], x.at(top, power), number[1]);
                    before = number[1];
                }
            }
        }
    }

    private static void putOfTheSameNumberInAnotherForm() {
        for (boolean top : SIDES) {
            for (long[] number : NUMBERS) {
                ClosedSums x = new ClosedSums();
                x.put(top, 4, number[1]);
                CHECK.holds("put of " + number[0] + " again", !x.put(top, 4, number[0]));
                CHECK.equal("then at", x.at(top, 4), number[1]);
            }
        }
    }

    private static void putOfNeighboursIsAnother() {
        ClosedSums x = new ClosedSums();
        CHECK.holds("0 where 1 is", x.put(false, 0, 0));
        CHECK.holds("32002 where 0 is", x.put(false, 0, 32002));
        CHECK.holds("32003 where 32002 is", x.put(false, 0, 32003));
        CHECK.holds("-1 where 0 is", x.put(false, 0, -1));
        CHECK.holds("-32003 where 32002 is", x.put(false, 0, -32003));
        CHECK.holds("1 where 0 is", x.put(false, 0, 1));
        CHECK.holds("2 where 1 is", x.put(false, 0, 2));
    }

    private static void putMakesASideZeroAndEndsIt() {
        for (boolean top : SIDES) {
            for (int power = 0; power <= 4; power++) {
                ClosedSums x = new ClosedSums();
                x.put(top, power, 7);
                x.put(top, 0, power == 0 ? 7 : 0);
                CHECK.equal("a side of one power", x.found(8), 0);
                x.put(top, power, 32003);
                CHECK.throwing("a side without one", IllegalStateException.class, () -> x.found(8));
                x.put(top, 0, -32002);
                likeNew("a side that was 0", x);
            }
        }
    }

    private static void atRefusesPowersOutside() {
        ClosedSums x = new ClosedSums();
        for (int power : POWERS_OUTSIDE) {
            for (boolean top : SIDES) {
                CHECK.throwing("at " + top + power, IndexOutOfBoundsException.class, () -> x.at(top, power));
            }
        }
        likeNew("after refused calls of at", x);
    }

    private static void atIsAnsweredForSidesThatAreZero() {
        ClosedSums x = Plain.sums(new long[] {}, new long[] {});
        ratioIs("0 through 0", x, new long[] {}, new long[] {});
        for (int power : POWERS_OUTSIDE) {
            CHECK.throwing("at " + power + " of 0", IndexOutOfBoundsException.class, () -> x.at(true, power));
            CHECK.throwing("put at " + power + " of 0", IndexOutOfBoundsException.class, () -> x.put(false, power, 1));
        }
    }

    /** With n in A and n^4 in B the distance itself and its fourth power can be read off. */
    private static void shiftOfEveryKindOfDistance() {
        for (long[] number : NUMBERS) {
            if (number[0] == (int) number[0]) {
                int k = (int) number[0];
                ClosedSums x = Plain.sums(new long[] {0, 1}, new long[] {0, 0, 0, 0, 1});
                x.shift(k);
                CHECK.equal("n shifted by " + k, x.at(true, 0), number[1]);
                ratioIs("shift by " + k, x, new long[] {number[1], 1}, Plain.ofRoots(1, -number[1], -number[1], -number[1], -number[1]));
            }
        }
    }

    private static void shiftByNothing() {
        for (int k : new int[] {0, 32003, -32003, 32003 * 67101, -32003 * 67101}) {
            ClosedSums x = Plain.sums(new long[] {1, 2, 3, 4, 5}, new long[] {9, 8, 7, 6, 5});
            x.shift(k);
            ratioIs("shift by " + k, x, new long[] {1, 2, 3, 4, 5}, new long[] {9, 8, 7, 6, 5});
        }
    }

    private static void shiftForthAndBack() {
        for (int k : new int[] {1, 8, 9, 32002, Integer.MAX_VALUE}) {
            ClosedSums x = Plain.sums(new long[] {1, 2, 3, 4, 32002}, new long[] {9, 8, 7, 6, 1});
            x.shift(k);
            CHECK.holds("moved by " + k, x.at(true, 0) != 1);
            x.shift(-k);
            ratioIs("forth and back by " + k, x, new long[] {1, 2, 3, 4, 32002}, new long[] {9, 8, 7, 6, 1});
        }
        ClosedSums least = Plain.sums(new long[] {0, 1}, new long[] {1});
        least.shift(Integer.MIN_VALUE);
        least.shift(Integer.MAX_VALUE);
        ratioIs("by the least and the greatest int", least, new long[] {32002, 1}, new long[] {1});
    }

    private static void shiftRoundTheEnd() {
        ClosedSums x = Plain.sums(new long[] {32002, 1}, new long[] {1, 32002});
        x.shift(1);
        ratioIs("n - 1 and 1 - n", x, new long[] {0, 1}, new long[] {0, 32002});
        x.shift(-1);
        ratioIs("and back", x, new long[] {32002, 1}, new long[] {1, 32002});
    }

    private static void shiftOfSidesThatAreZero() {
        ClosedSums both = Plain.sums(new long[] {}, new long[] {});
        both.shift(5);
        ratioIs("0 through 0", both, new long[] {}, new long[] {});
        ClosedSums top = Plain.sums(new long[] {}, new long[] {0, 1});
        top.shift(-3);
        ratioIs("0 through n", top, new long[] {}, new long[] {-3, 1});
        ClosedSums bottom = Plain.sums(new long[] {0, 1}, new long[] {});
        bottom.shift(3);
        ratioIs("n through 0", bottom, new long[] {3, 1}, new long[] {});
        CHECK.throwing("run of n through 0", IllegalStateException.class, bottom::run);
    }

    private static void shiftOfNumbersAlone() {
        ClosedSums x = new ClosedSums();
        for (int k : new int[] {0, 1, -1, 32003, Integer.MIN_VALUE, Integer.MAX_VALUE}) {
            x.shift(k);
        }
        likeNew("1 shifted", x);
    }

    private static void clearOfANewObject() {
        ClosedSums x = new ClosedSums();
        x.clear();
        likeNew("cleared at once", x);
        x.clear();
        likeNew("cleared twice", x);
    }

    private static void clearOfSidesThatAreZero() {
        long[][][] ratios = {{{}, {1, 1}}, {{1, 1}, {}}, {{}, {}}};
        for (long[][] ratio : ratios) {
            ClosedSums x = Plain.sums(ratio[0], ratio[1]);
            Answers.of(x);
            x.clear();
            likeNew("0 cleared", x);
        }
    }

    private static void clearOfFullSides() {
        long[] full = {32002, 32002, 32002, 32002, 32002};
        ClosedSums x = Plain.sums(full, full);
        Answers.of(x);
        x.clear();
        likeNew("full sides cleared", x);
        CHECK.holds("put of 1 after clear", !x.put(true, 0, 1));
        CHECK.holds("put of 0 after clear", !x.put(false, 4, 0));
        CHECK.holds("put of 2 after clear", x.put(true, 0, 2));
    }
}
