/** Counts answers that are not as due, prints each, and ends the program with exit code 1 if there was one. */
final class Check {
    /** A call that may throw. */
    interface Call {
        long answer();
    }

    private final String name;
    private int right;
    private int wrong;

    Check(String name) {
        this.name = name;
    }

    void is(String what, long got, long due) {
        if (got == due) {
            right++;
        } else {
            wrong++;
            System.out.println(name + ": " + what + " answered " + got + ", due is " + due);
        }
    }

    void holds(String what, boolean truth) {
        is(what, truth ? 1 : 0, 1);
    }

    /** The very class is wanted: one above or below it is wrong. */
    void raises(String what, Class<? extends RuntimeException> due, Call call) {
        try {
            long got = call.answer();
            wrong++;
            System.out.println(name + ": " + what + " answered " + got + ", due is " + due.getName());
        } catch (RuntimeException e) {
            holds(what + " throws " + due.getName() + " (threw " + e.getClass().getName() + ")", e.getClass() == due);
        }
    }

    void end() {
        System.out.println(name + ": " + right + " answers as due, " + wrong + " not");
        if (wrong != 0) {
            System.exit(1);
        }
    }
}
