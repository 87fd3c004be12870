import java.util.List;
import java.util.Map;
import java.util.Set;
import java.util.TreeSet;
import java.util.function.Function;
import java.util.function.Supplier;

/** Holds the answers of calls against those that are due; a label begins with the promise that it is about. */
final class Due {
    static final String ILLEGAL_ARGUMENT = "throws.IllegalArgumentException";
    static final String ILLEGAL_STATE = "throws.IllegalStateException";
    static final String NO_SUCH_ELEMENT = "throws.NoSuchElementException";

    private static final long LONGEST_TEST_MILLIS = 300_000L;

    private int wrong;
    private int checked;

    Due() {
        endInTime();
    }

    /** A call that does not end is wrong too: the test ends with exit code 1 then. */
    static void endInTime() {
        Thread watch = new Thread(() -> {
            try {
                Thread.sleep(LONGEST_TEST_MILLIS);
            } catch (InterruptedException e) {
                return;
            }
            System.out.println("a call does not end");
            Runtime.getRuntime().halt(1);
        });
        watch.setDaemon(true);
        watch.start();
    }

    /** The answer of a call as a text, or the exception that it throws. */
    static String answer(Supplier<Object> call) {
        try {
            return String.valueOf(call.get());
        } catch (RuntimeException e) {
            return "throws." + e.getClass().getSimpleName();
        }
    }

    /** A world in which a call has been made, whatever it answered. */
    static Supplier<DottedMaps> after(Supplier<DottedMaps> world, Function<DottedMaps, Object> call) {
        return () -> {
            DottedMaps maps = world.get();
            answer(() -> call.apply(maps));
            return maps;
        };
    }

    void is(String label, Supplier<Object> call, Object want) {
        checked++;
        String got = answer(call);
        if (!got.equals(String.valueOf(want))) {
            wrong++;
            System.out.println(label + ": answered " + got + ", due is " + want);
        }
    }

    void refusesArguments(String label, Supplier<Object> call) {
        is(label, call, ILLEGAL_ARGUMENT);
    }

    void refusesState(String label, Supplier<Object> call) {
        is(label, call, ILLEGAL_STATE);
    }

    /** The call answers as it is due, and nothing of the object is changed by it. */
    void leaves(String label, Supplier<DottedMaps> world, Function<DottedMaps, Object> call, Object want) {
        is(label, () -> call.apply(world.get()), want);
        differ(label + " changes nothing", world, after(world, call));
    }

    /**
     * Two worlds differ in just these answers, now, after coming up and after all messages are delivered:
     * "call: answer in the one, answer in the other".
     */
    void differ(String label, Supplier<DottedMaps> one, Supplier<DottedMaps> other, String... differences) {
        Map<String, String> before = Whole.of(one);
        Map<String, String> now = Whole.of(other);
        Set<String> found = new TreeSet<>();
        before.forEach((call, answer) -> {
            if (!answer.equals(now.get(call))) {
                found.add(call + ": " + answer + ", " + now.get(call));
            }
        });
        Set<String> wanted = new TreeSet<>();
        for (String difference : differences) {
            wanted.addAll(List.of(difference, Whole.COME_UP + difference, Whole.DELIVERED + difference));
        }
        is(label, () -> found, wanted);
    }

    /** Ends the test: with exit code 1 if an answer was wrong. */
    void end() {
        System.out.println(checked + " answers looked at, " + wrong + " wrong");
        if (wrong != 0 || checked == 0) {
            System.exit(1);
        }
    }
}
