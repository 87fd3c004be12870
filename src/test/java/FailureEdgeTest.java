import java.util.List;
import java.util.function.Function;
import java.util.function.Supplier;

/** Promise 18 at its edges: for which write a failure is set, and what it leaves of a write to the log and to a slot. */
public final class FailureEdgeTest {
    private record Change(String name, Function<DottedMaps, Object> of) { }

    /** Each is a change at replica 0 in each of the worlds below. */
    private static final List<Change> CHANGES = List.of(
        new Change("2 raise", m -> m.raise(0, 1)),
        new Change("3 write", m -> m.write(0, 12, 9)),
        new Change("4 add", m -> m.add(0, 123, 4)),
        new Change("5 count", m -> m.count(0, 2, 9)),
        new Change("6 clear", m -> m.clear(0, 2, 4)),
        new Change("7 erase", m -> m.erase(0, 0)));

    private final Due due = new Due();

    public static void main(String[] args) {
        FailureEdgeTest test = new FailureEdgeTest();
        test.fromNowOn();
        test.inPlaceOfAnother();
        test.noneIsSet();
        test.ofOneReplica();
        test.failsOnce();
        test.writeToTheLog();
        test.writeToSlot0BeforeTheLog();
        test.writeToSlot1BeforeTheLog();
        test.writeToTheLogBehindACheckpoint();
        test.checkpointThatFails();
        test.failuresInARow();
        test.notTakenInIsNotSent();
        test.setWhenDown();
        test.due.end();
    }

    private static DottedMaps counted(int many) {
        DottedMaps maps = new DottedMaps(2);
        for (int i = 0; i < many; i++) {
            maps.count(0, 2, 1);
        }
        return maps;
    }

    /** "for the k-th of its writes from now on": whatever it has written before, checkpoints too. */
    private void fromNowOn() {
        for (int before = 0; before <= 13; before++) {
            for (int k = 1; k <= 20; k++) {
                failsFromNowOn(before, k);
            }
        }
    }

    private void failsFromNowOn(int before, int k) {
        DottedMaps maps = counted(before);
        int wanted = maps.replica(0, 4) + k;
        String of = "18 fail " + k + " after " + before;
        due.is(of, () -> maps.fail(0, k), true);
        for (int i = 0; i < 20 && maps.replica(0, 0) == 1; i++) {
            Due.answer(() -> maps.count(0, 2, 1));
        }
        due.is(of + ": down", () -> maps.replica(0, 0), 0);
        due.is(of + ": writes", () -> maps.replica(0, 4), wanted);
        due.refusesState(of + ": the next call finds it down", () -> maps.count(0, 2, 1));
        due.is(of + ": which is no write", () -> maps.replica(0, 4), wanted);
    }

    /** "in place of another one": a later one and an earlier one. */
    private void inPlaceOfAnother() {
        int[][] rows = {{1, 3}, {3, 1}, {2, 20}, {20, 2}, {5, 5}};
        for (int[] row : rows) {
            for (int between = 0; between < Math.min(row[0], 3); between++) {
                DottedMaps maps = counted(0);
                maps.fail(0, row[0]);
                for (int i = 0; i < between; i++) {
                    maps.checkpoint(0);
                }
                String of = "18 fail " + row[1] + " in place of " + row[0] + " after " + between;
                due.is(of, () -> maps.fail(0, row[1]), true);
                for (int i = 1; i < row[1]; i++) {
                    due.is(of + ", write " + i, () -> maps.checkpoint(0), 0);
                }
                due.refusesState(of + ", the one", () -> maps.checkpoint(0));
            }
        }
    }

    /** "k = 0: none is". */
    private void noneIsSet() {
        for (int k : new int[] {1, 2, 20}) {
            DottedMaps maps = counted(0);
            maps.fail(0, k);
            due.is("18 fail 0 in place of " + k, () -> maps.fail(0, 0), true);
            for (int i = 1; i <= 22; i++) {
                due.is("18 write " + i + " holds", () -> maps.checkpoint(0), 0);
            }
        }
    }

    private void ofOneReplica() {
        DottedMaps maps = new DottedMaps(3);
        maps.fail(0, 1);
        maps.fail(1, 2);
        due.is("18 replica 2 has none", () -> maps.raise(2, 1), 1);
        due.is("18 replica 1 has it later", () -> maps.raise(1, 1), 1);
        due.refusesState("18 replica 0 has it now", () -> maps.raise(0, 1));
        due.is("18 replica 1 is up", () -> maps.replica(1, 0), 1);
        due.refusesState("18 replica 1 has it now", () -> maps.raise(1, 1));
        due.is("18 replica 2 is up", () -> maps.replica(2, 0), 1);
        due.is("18 replica 2 has none still", () -> maps.raise(2, 1), 2);
    }

    /** "when that is made, the replica is DOWN": after coming up it writes again. */
    private void failsOnce() {
        DottedMaps maps = counted(2);
        maps.fail(0, 1);
        due.refusesState("18 it fails", () -> maps.count(0, 2, 1));
        due.is("18 it comes up", () -> maps.power(0, true), true);
        for (int i = 3; i <= 24; i++) {
            int n = i;
            due.is("18 dot " + i + " holds", () -> maps.count(0, 2, 1), n);
        }
    }

    private void fails(String label, Supplier<DottedMaps> world, int k, Function<DottedMaps, Object> call) {
        DottedMaps maps = world.get();
        maps.fail(0, k);
        due.refusesState(label, () -> call.apply(maps));
        due.is(label + ": down", () -> maps.replica(0, 0), 0);
    }

    private static Supplier<DottedMaps> failed(Supplier<DottedMaps> world, int k, Function<DottedMaps, Object> call) {
        return Due.after(Due.after(world, m -> m.fail(0, k)), call);
    }

    private static Supplier<DottedMaps> wentDown(Supplier<DottedMaps> world) {
        return Due.after(world, m -> m.power(0, false));
    }

    /** "a delta is not in the log then": all is as if the replica had but gone down, and one write more. */
    private void writeToTheLog() {
        for (Change change : CHANGES) {
            String name = change.name + " that fails in the log";
            fails(name, Worlds::busy, 1, change.of);
            due.differ(name, wentDown(Worlds::busy), failed(Worlds::busy, 1, change.of), "replica(0, 4): 10, 11");
        }
    }

    /** "a slot is not whole then (and has the NEXT that it had). What was about to be done besides is not done." */
    private void writeToSlot0BeforeTheLog() {
        for (Change change : CHANGES) {
            String name = change.name + " that fails in slot 0";
            fails(name, Worlds::logged, 1, change.of);
            due.differ(name, wentDown(Worlds::logged), failed(Worlds::logged, 1, change.of), "replica(0, 4): 9, 10",
                "replica(0, 8): 1, 0");
            DottedMaps maps = failed(Worlds::logged, 1, change.of).get();
            due.is(name + ": its NEXT", () -> maps.replica(0, 6), 0);
            due.is(name + ": the log", () -> maps.replica(0, 3), 6);
        }
    }

    /** The same for slot 1, whole before with the lesser NEXT, and for slot 1 that has never been whole. */
    private void writeToSlot1BeforeTheLog() {
        for (Change change : CHANGES) {
            String name = change.name + " that fails in slot 1";
            Supplier<DottedMaps> world = () -> counted(18);
            fails(name + " that was never whole", () -> counted(6), 1, change.of);
            due.differ(name + " that was never whole", wentDown(() -> counted(6)), failed(() -> counted(6), 1, change.of),
                "replica(0, 4): 6, 7");
            fails(name + " that was whole", () -> counted(18), 1, change.of);
            due.differ(name + " that was whole", wentDown(world), failed(world, 1, change.of), "replica(0, 4): 20, 21",
                "replica(0, 9): 1, 0");
            DottedMaps whole = failed(world, 1, change.of).get();
            due.is(name + ": its NEXT", () -> whole.replica(0, 7), 6);
        }
    }

    /** The checkpoint holds, the log does not: the slot is whole, the log is empty, no delta is taken in. */
    private void writeToTheLogBehindACheckpoint() {
        for (Change change : CHANGES) {
            String name = change.name + " that fails in the log behind a checkpoint";
            fails(name, Worlds::logged, 2, change.of);
            Supplier<DottedMaps> saved = Due.after(Worlds::logged, m -> m.checkpoint(0));
            due.differ(name, wentDown(saved), failed(Worlds::logged, 2, change.of), "replica(0, 4): 10, 11");
            DottedMaps maps = failed(Worlds::logged, 2, change.of).get();
            due.is(name + ": NEXT of slot 0", () -> maps.replica(0, 6), 8);
            due.is(name + ": slot 0 is whole", () -> maps.replica(0, 8), 1);
            due.is(name + ": the log", () -> maps.replica(0, 3), 0);
        }
    }

    /** The log is not emptied when the slot is not written. */
    private void checkpointThatFails() {
        for (int many = 0; many <= 6; many++) {
            DottedMaps maps = counted(many);
            int of = many;
            maps.fail(0, 1);
            due.refusesState("16 checkpoint of " + many + " that fails", () -> maps.checkpoint(0));
            due.is("18 the log of " + many + " stays", () -> maps.replica(0, 3), of);
            due.is("18 slot 0 is whole", () -> maps.replica(0, 8), 1);
            due.is("18 slot 1 is not", () -> maps.replica(0, 9), 0);
            due.is("18 NEXT of slot 1", () -> maps.replica(0, 7), 0);
            due.is("18 the write counts", () -> maps.replica(0, 4), of + 1);
            maps.power(0, true);
            due.is("18 all " + many + " are there", () -> maps.sum(0, 2), of);
            due.is("18 NEXT after " + many, () -> maps.replica(0, 1), of);
        }
        due.differ("16 a checkpoint that fails in slot 0", wentDown(Worlds::logged),
            failed(Worlds::logged, 1, m -> m.checkpoint(0)), "replica(0, 4): 9, 10", "replica(0, 8): 1, 0");
    }

    /** Failure upon failure loses nothing that held, whichever slot is being written. */
    private void failuresInARow() {
        for (int many : new int[] {6, 12, 18, 24}) {
            DottedMaps maps = counted(many);
            int of = many;
            for (int i = 1; i <= 5; i++) {
                maps.fail(0, 1);
                due.refusesState("18 failure " + i + " at " + many, () -> maps.count(0, 2, 1));
                due.is("18 one slot is whole", () -> maps.replica(0, 8) + maps.replica(0, 9), 1);
                due.is("18 the log is full", () -> maps.replica(0, 3), 6);
                maps.power(0, true);
                due.is("18 all are there", () -> maps.sum(0, 2), of);
                due.is("18 NEXT", () -> maps.replica(0, 1), of);
            }
            due.is("18 it holds at last", () -> maps.count(0, 2, 1), many + 1);
            due.is("18 both slots are whole", () -> maps.replica(0, 8) + maps.replica(0, 9), 2);
            due.is("18 the log has one", () -> maps.replica(0, 3), 1);
        }
    }

    /** "no delta is taken in": nothing of it is in the buffer or in what is sent. */
    private void notTakenInIsNotSent() {
        DottedMaps maps = counted(1);
        maps.gossip(0, 1);
        maps.deliver(0);
        maps.deliver(0);
        maps.fail(0, 1);
        due.refusesState("18 an erase that fails", () -> maps.erase(0, 0));
        maps.power(0, true);
        due.is("12 gossip of the state", () -> maps.gossip(0, 1), 2);
        due.is("21 the count is alive", () -> maps.message(0, 4), 1);
        due.is("13 it brings nothing new", () -> maps.deliver(0), 2);
        due.is("9 the count is there", () -> maps.sum(1, 2), 1);
    }

    /** "true": it may be set when the replica is down, and is forgotten by coming up. */
    private void setWhenDown() {
        DottedMaps maps = counted(1);
        maps.power(0, false);
        due.is("18 fail when down", () -> maps.fail(0, 1), true);
        due.is("18 it makes no write", () -> maps.replica(0, 4), 1);
        due.is("18 fail 0 when down", () -> maps.fail(0, 0), true);
        due.is("18 fail 20 when down", () -> maps.fail(0, 20), true);
        due.is("18 fail 21 when down", () -> maps.fail(0, 21), false);
        maps.fail(0, 1);
        maps.power(0, true);
        due.is("18 forgotten when up", () -> maps.count(0, 2, 1), 2);
        due.is("18 set when up", () -> maps.fail(0, 1), true);
        due.refusesState("18 it fails", () -> maps.count(0, 2, 1));
    }
}
