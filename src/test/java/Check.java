/** Counts answers that are not as due, prints each, and ends the program with exit code 1 if there was one. */
final class Check {
    /** A call that may throw. */
    interface Call {
        long answer();
    }

    // What the Java machine writes into an exception of its own; one that code throws has a written text.
    private static final String OF_THE_MACHINE = "Index .* out of bounds .*|/ by zero|-?\\d+|Cannot .*";

    private final String name;
    private String sentence = "";
    private int right;
    private int wrong;

    Check(String name) {
        this.name = name;
    }

    /** The document's words that are tested from here on: told with each answer that is not as due. */
    void sentence(String words) {
        sentence = "\"" + words + "\": ";
    }

    void is(String what, long got, long due) {
        if (got == due) {
            right++;
        } else {
            wrong++;
            System.out.println(name + ": " + sentence + what + " answered " + got + ", due is " + due);
        }
    }

    void holds(String what, boolean truth) {
        is(what, truth ? 1 : 0, 1);
    }

    /** The very class is wanted, one above or below it is wrong, and thrown by a throw, not by the machine. */
    void raises(String what, Class<? extends RuntimeException> due, Call call) {
        try {
            long got = call.answer();
            wrong++;
            System.out.println(name + ": " + sentence + what + " answered " + got + ", due is " + due.getName());
        } catch (RuntimeException e) {
            holds(what + " throws " + due.getName() + " (threw " + e.getClass().getName() + ")", e.getClass() == due);
            holds(what + " throws by itself", e.getMessage() != null && !e.getMessage().matches(OF_THE_MACHINE));
        }
    }

    void end() {
        System.out.println(name + ": " + right + " answers as due, " + wrong + " not");
        if (wrong != 0) {
            System.exit(1);
        }
    }
}
