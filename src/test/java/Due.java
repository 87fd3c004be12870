import java.util.function.Supplier;

/** Holds the answers of calls against those that are due; the first word of a label is its promise. */
final class Due {
    static final String ILLEGAL_ARGUMENT = "throws.IllegalArgumentException";
    static final String ILLEGAL_STATE = "throws.IllegalStateException";
    static final String NO_SUCH_ELEMENT = "throws.NoSuchElementException";

    private int wrong;
    private int checked;

    /** The answer of a call as a text, or the exception that it throws. */
    static String answer(Supplier<Object> call) {
        try {
            return String.valueOf(call.get());
        } catch (RuntimeException e) {
            return "throws." + e.getClass().getSimpleName();
        }
    }

    void is(String label, Supplier<Object> call, Object want) {
        checked++;
        String got = answer(call);
        if (!got.equals(String.valueOf(want))) {
            wrong++;
            System.out.println(label + ": answered " + got + ", due is " + want);
        }
    }

    void refusesArguments(String label, Supplier<Object> call) {
        is(label, call, ILLEGAL_ARGUMENT);
    }

    void refusesState(String label, Supplier<Object> call) {
        is(label, call, ILLEGAL_STATE);
    }

    /** Ends the test: with exit code 1 if an answer was wrong. */
    void end() {
        System.out.println(checked + " answers looked at, " + wrong + " wrong");
        if (wrong != 0 || checked == 0) {
            System.exit(1);
        }
    }
}
