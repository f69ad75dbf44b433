import java.util.List;

/** Counts and prints the answers that are not as due. */
final class Check {
    /** A call that may throw. */
    interface Call {
        void make();
    }

    private int wrong = 0;

    void equal(String what, long got, long due) {
        if (got != due) {
            wrong++;
            System.out.println(what + " answered " + got + ", due is " + due);
        }
    }

    void holds(String what, boolean held) {
        if (!held) {
            wrong++;
            System.out.println(what + " does not hold");
        }
    }

    /** Prints only the lines that differ. */
    void same(String what, List<String> got, List<String> due) {
        holds(what + ": as many lines", got.size() == due.size());
        for (int i = 0; i < got.size() && i < due.size(); i++) {
            holds(what + ": " + got.get(i) + ", due is " + due.get(i), got.get(i).equals(due.get(i)));
        }
    }

    void throwing(String what, Class<? extends RuntimeException> due, Call call) {
        Class<?> got = null;
        try {
            call.make();
        } catch (RuntimeException e) {
            got = e.getClass();
        }
        if (got != due) {
            wrong++;
            System.out.println(what + " threw " + got + ", due is " + due);
        }
    }

    void end() {
        if (wrong != 0) {
            System.out.println(wrong + " answers are not as due");
            System.exit(1);
        }
    }
}
