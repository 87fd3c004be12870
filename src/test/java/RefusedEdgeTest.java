import java.util.List;
import java.util.function.Function;
import java.util.function.Supplier;

/**
 * Refused calls of every method: what they throw or answer, and that they change nothing else. "Every method tests
 * first whether its arguments are as said, then whether the replica is up where one is needed. A method
 * that throws changes nothing else than what a failure leaves."
 */
public final class RefusedEdgeTest {
    private record Call(String name, Function<DottedMaps, Object> of) { }

    /** Of three replicas; each has one number that is not as said, and all others are. */
    private static final List<Call> WRONG_ARGUMENTS = List.of(
        new Call("2 raise, no replica below", m -> m.raise(-1, 1)),
        new Call("2 raise, no replica above", m -> m.raise(3, 1)),
        new Call("2 raise, no path", m -> m.raise(0, 0)),
        new Call("2 raise, no path above", m -> m.raise(0, 445)),
        new Call("3 write, no replica below", m -> m.write(-1, 12, 1)),
        new Call("3 write, no replica above", m -> m.write(3, 12, 1)),
        new Call("3 write, no path", m -> m.write(0, 0, 1)),
        new Call("3 write, no path above", m -> m.write(0, 1111, 1)),
        new Call("4 add, no replica below", m -> m.add(-1, 123, 4)),
        new Call("4 add, no replica above", m -> m.add(3, 123, 4)),
        new Call("4 add, no path", m -> m.add(0, 120, 4)),
        new Call("4 add, no element below", m -> m.add(0, 123, -1)),
        new Call("4 add, no element above", m -> m.add(0, 123, 10)),
        new Call("5 count, no replica below", m -> m.count(-1, 2, 1)),
        new Call("5 count, no replica above", m -> m.count(3, 2, 1)),
        new Call("5 count, no path", m -> m.count(0, 20, 1)),
        new Call("5 count 0", m -> m.count(0, 2, 0)),
        new Call("6 clear, no replica below", m -> m.clear(-1, 12, 2)),
        new Call("6 clear, no replica above", m -> m.clear(3, 12, 2)),
        new Call("6 clear, no path", m -> m.clear(0, 0, 2)),
        new Call("6 clear, no kind below", m -> m.clear(0, 12, 0)),
        new Call("6 clear, no kind between", m -> m.clear(0, 12, 5)),
        new Call("6 clear, no element below", m -> m.clear(0, 123, 9)),
        new Call("6 clear, no element above", m -> m.clear(0, 123, 20)),
        new Call("7 erase, no replica below", m -> m.erase(-1, 0)),
        new Call("7 erase, no replica above", m -> m.erase(3, 0)),
        new Call("7 erase, no path below", m -> m.erase(0, -1)),
        new Call("7 erase, no path above", m -> m.erase(0, 5)),
        new Call("8 sees, no replica below", m -> m.sees(-1, 12, 2)),
        new Call("8 sees, no replica above", m -> m.sees(3, 12, 2)),
        new Call("8 sees, no path", m -> m.sees(0, 0, 2)),
        new Call("8 sees, no kind below", m -> m.sees(0, 12, 0)),
        new Call("8 sees, no kind between", m -> m.sees(0, 12, 5)),
        new Call("8 sees, no element below", m -> m.sees(0, 123, 9)),
        new Call("8 sees, no element above", m -> m.sees(0, 123, 20)),
        new Call("9 sum, no replica below", m -> m.sum(-1, 2)),
        new Call("9 sum, no replica above", m -> m.sum(3, 2)),
        new Call("9 sum, no path", m -> m.sum(0, 0)),
        new Call("10 value, no replica below", m -> m.value(-1, 12, 0)),
        new Call("10 value, no replica above", m -> m.value(3, 12, 0)),
        new Call("10 value, no path", m -> m.value(0, 0, 0)),
        new Call("10 value, no path and k below 0", m -> m.value(0, 0, -1)),
        new Call("11 keys, no replica below", m -> m.keys(-1, 0)),
        new Call("11 keys, no replica above", m -> m.keys(3, 0)),
        new Call("11 keys, no path below", m -> m.keys(0, -1)),
        new Call("11 keys, no path above", m -> m.keys(0, 5)),
        new Call("12 gossip, no sender below", m -> m.gossip(-1, 1)),
        new Call("12 gossip, no sender above", m -> m.gossip(3, 1)),
        new Call("12 gossip, no receiver below", m -> m.gossip(0, -1)),
        new Call("12 gossip, no receiver above", m -> m.gossip(0, 3)),
        new Call("12 gossip to itself", m -> m.gossip(0, 0)),
        new Call("13 deliver, no message below", m -> m.deliver(-1)),
        new Call("13 deliver, no message above", m -> m.deliver(24)),
        new Call("15 collect, no replica below", m -> m.collect(-1)),
        new Call("15 collect, no replica above", m -> m.collect(3)),
        new Call("16 checkpoint, no replica below", m -> m.checkpoint(-1)),
        new Call("16 checkpoint, no replica above", m -> m.checkpoint(3)),
        new Call("20 known, no replica below", m -> m.known(-1, 0, 0)),
        new Call("20 known, no replica above", m -> m.known(3, 0, 0)),
        new Call("20 known of no replica below", m -> m.known(0, -1, 0)),
        new Call("20 known of no replica above", m -> m.known(0, 3, 0)),
        new Call("20 known, no what below", m -> m.known(0, 1, -1)),
        new Call("20 known, no what above", m -> m.known(0, 1, 4)));

    /** All that needs replica 0 to be up, with arguments as said. */
    private static final List<Call> NEEDS_UP = List.of(
        new Call("2 raise", m -> m.raise(0, 1)),
        new Call("3 write", m -> m.write(0, 12, 1)),
        new Call("4 add", m -> m.add(0, 123, 4)),
        new Call("5 count", m -> m.count(0, 2, 1)),
        new Call("6 clear", m -> m.clear(0, 12, 2)),
        new Call("6 clear of nothing", m -> m.clear(0, 3, 1)),
        new Call("7 erase", m -> m.erase(0, 0)),
        new Call("7 erase of nothing", m -> m.erase(0, 3)),
        new Call("8 sees", m -> m.sees(0, 12, 2)),
        new Call("9 sum", m -> m.sum(0, 2)),
        new Call("10 value", m -> m.value(0, 12, 0)),
        new Call("10 value, not so many", m -> m.value(0, 12, 9)),
        new Call("10 value, k below 0", m -> m.value(0, 12, -1)),
        new Call("11 keys", m -> m.keys(0, 0)),
        new Call("11 keys of three digits", m -> m.keys(0, 444)),
        new Call("12 gossip", m -> m.gossip(0, 1)),
        new Call("15 collect", m -> m.collect(0)),
        new Call("16 checkpoint", m -> m.checkpoint(0)),
        new Call("20 known", m -> m.known(0, 1, 0)),
        new Call("20 known of itself", m -> m.known(0, 0, 3)));

    private final Due due = new Due();

    public static void main(String[] args) {
        RefusedEdgeTest test = new RefusedEdgeTest();
        test.wrongArguments();
        test.down();
        test.spent();
        test.crowded();
        test.noSuchElement();
        test.answeredFalse();
        test.answeredNone();
        test.nothingToDo();
        test.looks();
        test.due.end();
    }

    private void wrongArguments() {
        due.is("21 five are under way", () -> Worlds.busy().message(-1, 0), 5);
        due.leaves("13 deliver, one behind the last", Worlds::busy, m -> m.deliver(5), Due.ILLEGAL_ARGUMENT);
        for (Call call : WRONG_ARGUMENTS) {
            due.leaves(call.name, Worlds::busy, call.of, Due.ILLEGAL_ARGUMENT);
            due.leaves(call.name + ", at 24 messages", Worlds::crowded, call.of, Due.ILLEGAL_ARGUMENT);
            due.leaves(call.name + ", before whether it is up", Worlds::down, call.of, Due.ILLEGAL_ARGUMENT);
        }
    }

    private void down() {
        for (Call call : NEEDS_UP) {
            due.leaves(call.name + " when down", Worlds::down, call.of, Due.ILLEGAL_STATE);
        }
        due.is("19 replica 0 is down", () -> Worlds.down().replica(0, 0), 0);
        due.is("19 the others are up", () -> Worlds.down().replica(1, 0) + Worlds.down().replica(2, 0), 2);
    }

    /** "IllegalStateException also when that would be above 60." */
    private void spent() {
        Supplier<DottedMaps> world = Worlds::spent;
        due.leaves("2 raise above 60", world, m -> m.raise(0, 1), Due.ILLEGAL_STATE);
        due.leaves("3 write above 60", world, m -> m.write(0, 1, 1), Due.ILLEGAL_STATE);
        due.leaves("4 add above 60", world, m -> m.add(0, 1, 1), Due.ILLEGAL_STATE);
        due.leaves("5 count above 60", world, m -> m.count(0, 1, 1), Due.ILLEGAL_STATE);
        due.leaves("2 raise above 60, no path", world, m -> m.raise(0, 0), Due.ILLEGAL_ARGUMENT);
        due.leaves("3 write above 60, no path", world, m -> m.write(0, 0, 1), Due.ILLEGAL_ARGUMENT);
        due.leaves("4 add above 60, no element", world, m -> m.add(0, 1, 10), Due.ILLEGAL_ARGUMENT);
        due.leaves("5 count 0 above 60", world, m -> m.count(0, 1, 0), Due.ILLEGAL_ARGUMENT);
    }

    /** "also when there are 24 messages (tested after whether r is up, and before anything else)". */
    private void crowded() {
        Supplier<DottedMaps> world = Worlds::crowded;
        due.is("21 24 are under way", () -> world.get().message(-1, 0), 24);
        due.leaves("12 gossip at 24", world, m -> m.gossip(0, 1), Due.ILLEGAL_STATE);
        due.leaves("12 gossip at 24 of the state", Due.after(world, m -> {
            m.power(1, false);
            return m.power(1, true);
        }), m -> m.gossip(1, 2), Due.ILLEGAL_STATE);
        Supplier<DottedMaps> silent = () -> {
            DottedMaps maps = new DottedMaps(3);
            maps.raise(0, 1);
            for (int i = 0; i < 24; i++) {
                maps.gossip(0, 1);
            }
            return maps;
        };
        due.leaves("12 gossip at 24 with nothing to send", silent, m -> m.gossip(2, 0), Due.ILLEGAL_STATE);
        for (int k : new int[] {0, 1, 22, 23}) {
            due.leaves("14 lose twice " + k + " at 24", world, m -> m.lose(k, true), false);
        }
    }

    /** "NoSuchElementException when there are not so many (or k is below 0)." */
    private void noSuchElement() {
        due.is("10 two values", () -> Worlds.busy().value(0, 12, 0) + Worlds.busy().value(0, 12, 1), 6 + 8);
        for (int k : new int[] {Integer.MIN_VALUE, -1, 2, 3, Integer.MAX_VALUE}) {
            due.leaves("10 value " + k, Worlds::busy, m -> m.value(0, 12, k), Due.NO_SUCH_ELEMENT);
        }
        due.leaves("10 value of no register", Worlds::busy, m -> m.value(0, 2, 0), Due.NO_SUCH_ELEMENT);
    }

    /** lose, power and fail answer false. */
    private void answeredFalse() {
        for (int k : new int[] {Integer.MIN_VALUE, -1, 5, 24, Integer.MAX_VALUE}) {
            due.leaves("14 lose " + k, Worlds::busy, m -> m.lose(k, false), false);
            due.leaves("14 lose twice " + k, Worlds::busy, m -> m.lose(k, true), false);
        }
        for (int r : new int[] {Integer.MIN_VALUE, -1, 3, Integer.MAX_VALUE}) {
            due.leaves("17 power on, no replica " + r, Worlds::busy, m -> m.power(r, true), false);
            due.leaves("17 power off, no replica " + r, Worlds::busy, m -> m.power(r, false), false);
            due.leaves("18 fail, no replica " + r, Worlds::busy, m -> m.fail(r, 1), false);
            due.leaves("18 fail 0, no replica " + r, Worlds::busy, m -> m.fail(r, 0), false);
        }
        due.leaves("17 power on when up", Worlds::busy, m -> m.power(0, true), false);
        due.leaves("17 power off when down", Worlds::down, m -> m.power(0, false), false);
        for (int k : new int[] {Integer.MIN_VALUE, -1, 21, Integer.MAX_VALUE}) {
            due.leaves("18 fail " + k, Worlds::busy, m -> m.fail(0, k), false);
            due.leaves("18 fail " + k + " when down", Worlds::down, m -> m.fail(0, k), false);
        }
    }

    private void answeredNone() {
        for (int r : new int[] {Integer.MIN_VALUE, -1, 3, Integer.MAX_VALUE}) {
            due.leaves("19 replica " + r, Worlds::busy, m -> m.replica(r, 1), DottedMaps.NONE);
        }
        for (int what : new int[] {Integer.MIN_VALUE, -1, 13, 14, Integer.MAX_VALUE}) {
            due.leaves("19 replica, what " + what, Worlds::busy, m -> m.replica(0, what), DottedMaps.NONE);
        }
        for (int what : new int[] {1, 2, 5, 10, 11, 12}) {
            due.leaves("19 replica when down, what " + what, Worlds::down, m -> m.replica(0, what), DottedMaps.NONE);
        }
        for (int k : new int[] {Integer.MIN_VALUE, -2, 5, 24, Integer.MAX_VALUE}) {
            due.leaves("21 message " + k, Worlds::busy, m -> m.message(k, 0), DottedMaps.NONE);
        }
        for (int what : new int[] {Integer.MIN_VALUE, -1, 6, Integer.MAX_VALUE}) {
            due.leaves("21 message, what " + what, Worlds::busy, m -> m.message(0, what), DottedMaps.NONE);
        }
    }

    /** "when there is none, there is no change" (nor a checkpoint, at a log of six); "nothing is sent"; none is dropped. */
    private void nothingToDo() {
        for (Supplier<DottedMaps> world : List.<Supplier<DottedMaps>>of(Worlds::busy, Worlds::logged)) {
            due.leaves("6 clear of no flag", world, m -> m.clear(0, 2, 1), 0);
            due.leaves("6 clear of no register", world, m -> m.clear(0, 2, 2), 0);
            due.leaves("6 clear of no element", world, m -> m.clear(0, 2, 3), 0);
            due.leaves("6 clear of no element of a number", world, m -> m.clear(0, 123, 15), 0);
            due.leaves("6 clear of no count", world, m -> m.clear(0, 12, 4), 0);
            due.leaves("6 clear of what is below", world, m -> m.clear(0, 4, 1), 0);
            due.leaves("7 erase of nothing", world, m -> m.erase(0, 3), 0);
            due.leaves("7 erase of nothing below", world, m -> m.erase(0, 21), 0);
            due.leaves("15 collect of nothing", world, m -> m.collect(0), 0);
        }
        Supplier<DottedMaps> empty = () -> new DottedMaps(2);
        due.leaves("7 erase of all when there is none", empty, m -> m.erase(1, 0), 0);
        due.leaves("12 gossip of nothing", empty, m -> m.gossip(0, 1), 0);
        due.leaves("15 collect of an empty buffer", empty, m -> m.collect(1), 0);
        due.leaves("18 fail 0 when none is set", empty, m -> m.fail(0, 0), true);
        due.leaves("18 fail when down is forgotten", Worlds::down, m -> m.fail(0, 1), true);
    }

    /** What only looks changes nothing, also with a failure set for the next write. */
    private void looks() {
        due.leaves("8 sees", Worlds::busy, m -> m.sees(1, 12, 2), true);
        due.leaves("9 sum", Worlds::busy, m -> m.sum(1, 2), 4);
        due.leaves("10 value", Worlds::busy, m -> m.value(1, 12, 0), 6);
        due.leaves("11 keys", Worlds::busy, m -> m.keys(1, 0), 2 + 4 + 16);
        due.leaves("19 replica", Worlds::busy, m -> m.replica(1, 1), 4);
        due.leaves("20 known", Worlds::busy, m -> m.known(1, 0, 0), 4);
        due.leaves("21 message", Worlds::busy, m -> m.message(0, 0), 0);
        due.leaves("21 how many messages", Worlds::busy, m -> m.message(-1, 0), 5);
    }
}
