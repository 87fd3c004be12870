/** Promises 16 to 18: checkpoints, power and failures, with the log and the slots that they leave. */
public final class FailuresTest {
    private final Due due = new Due();

    public static void main(String[] args) {
        FailuresTest test = new FailuresTest();
        test.checkpoint();
        test.checkpointOfTheLog();
        test.checkpointRefused();
        test.power();
        test.comingUp();
        test.fail();
        test.failRefused();
        test.failingLogWrite();
        test.failingSlots();
        test.failingCheckpointBeforeTheLog();
        test.failingAnyWrite();
        test.dotsAfterAFailure();
        test.due.end();
    }

    /** NEXT of slot 0 and 1, whether they are whole, the deltas of the log, the writes. */
    private void slots(String label, DottedMaps maps, int... answers) {
        int[] whats = {6, 7, 8, 9, 3, 4};
        for (int i = 0; i < answers.length; i++) {
            int what = whats[i];
            due.is(label + ", what " + what, () -> maps.replica(0, what), answers[i]);
        }
    }

    private static DottedMaps counted(int many) {
        DottedMaps maps = new DottedMaps(2);
        for (int i = 0; i < many; i++) {
            maps.count(0, 1, 1);
        }
        return maps;
    }

    private void checkpoint() {
        DottedMaps maps = new DottedMaps(2);
        due.is("16 checkpoint of nothing", () -> maps.checkpoint(0), 0);
        slots("16 slot 1 was not whole", maps, 0, 0, 1, 1, 0, 1);
        maps.count(0, 1, 1);
        due.is("16 checkpoint of one", () -> maps.checkpoint(0), 1);
        slots("16 slot 1 when both are the same", maps, 0, 1, 1, 1, 0, 3);
        maps.count(0, 1, 1);
        slots("16 the log has one", maps, 0, 1, 1, 1, 1, 4);
        due.is("16 checkpoint of two", () -> maps.checkpoint(0), 2);
        slots("16 slot 0 has the lesser NEXT", maps, 2, 1, 1, 1, 0, 5);
        due.is("16 checkpoint again", () -> maps.checkpoint(0), 2);
        slots("16 slot 1 has the lesser NEXT", maps, 2, 2, 1, 1, 0, 6);
        due.is("16 checkpoint keeps the buffer", () -> maps.replica(0, 2), 0);
        due.is("16 the other has none", () -> maps.replica(1, 4), 0);
    }

    private void checkpointOfTheLog() {
        DottedMaps six = counted(6);
        slots("16 six deltas in the log", six, 0, 0, 1, 0, 6, 6);
        six.count(0, 1, 1);
        slots("16 the seventh makes a checkpoint first", six, 0, 6, 1, 1, 1, 8);
        slots("16 the thirteenth makes another", counted(13), 12, 6, 1, 1, 1, 15);
        slots("16 the nineteenth a third", counted(19), 12, 18, 1, 1, 1, 22);
        DottedMaps by = counted(6);
        by.gossip(0, 1);
        by.deliver(0);
        by.write(1, 2, 1);
        by.gossip(1, 0);
        due.is("16 a taking in makes a checkpoint too", () -> by.deliver(1), 1);
        slots("16 before a delta of another", by, 0, 6, 1, 1, 1, 8);
    }

    private void checkpointRefused() {
        DottedMaps maps = new DottedMaps(2);
        for (int r : new int[] {-1, 2, Integer.MAX_VALUE, Integer.MIN_VALUE}) {
            due.refusesArguments("16 checkpoint of " + r, () -> maps.checkpoint(r));
        }
        maps.power(0, false);
        due.refusesState("16 checkpoint when down", () -> maps.checkpoint(0));
        slots("16 a refused checkpoint writes nothing", maps, 0, 0, 1, 0, 0, 0);
    }

    private void power() {
        DottedMaps maps = new DottedMaps(2);
        due.is("17 power on when up", () -> maps.power(0, true), false);
        due.is("17 power off", () -> maps.power(0, false), true);
        due.is("17 it is down", () -> maps.replica(0, 0), 0);
        due.is("17 the other is not", () -> maps.replica(1, 0), 1);
        due.is("17 power off when down", () -> maps.power(0, false), false);
        due.is("17 power on", () -> maps.power(0, true), true);
        due.is("17 it is up", () -> maps.replica(0, 0), 1);
        for (int r : new int[] {-1, 2, Integer.MAX_VALUE, Integer.MIN_VALUE}) {
            due.is("17 power on of " + r, () -> maps.power(r, true), false);
            due.is("17 power off of " + r, () -> maps.power(r, false), false);
        }
        maps.fail(0, 1);
        due.is("17 power on when up with a failure set", () -> maps.power(0, true), false);
        due.refusesState("17 leaves the failure", () -> maps.raise(0, 1));
        maps.power(0, true);
        maps.fail(0, 1);
        maps.power(0, false);
        maps.power(0, true);
        due.is("17 coming up forgets a failure set before", () -> maps.raise(0, 1), 1);
        maps.power(0, false);
        due.is("18 fail when down", () -> maps.fail(0, 1), true);
        maps.power(0, true);
        due.is("17 coming up forgets a failure set when down", () -> maps.raise(0, 1), 2);
    }

    private void comingUp() {
        DottedMaps maps = counted(9);
        maps.gossip(0, 1);
        maps.deliver(0);
        maps.deliver(0);
        due.is("17 the ack before", () -> maps.replica(0, 11), 9);
        maps.clear(0, 1, 4);
        maps.raise(0, 2);
        maps.power(0, false);
        slots("17 what is written stays when down", maps, 0, 6, 1, 1, 5, 12);
        maps.power(0, true);
        slots("17 coming up writes nothing", maps, 0, 6, 1, 1, 5, 12);
        due.is("17 NEXT with the log's", () -> maps.replica(0, 1), 11);
        due.is("17 the buffer is empty", () -> maps.replica(0, 2), 11);
        due.is("17 the acks are 0", () -> maps.replica(0, 11), 0);
        due.is("17 the flag is there", () -> maps.sees(0, 2, 1), true);
        due.is("17 what was taken out is not", () -> maps.sum(0, 1), 0);
        due.is("17 all is known", () -> maps.known(0, 0, 1), 10);
        maps.checkpoint(0);
        maps.checkpoint(0);
        maps.power(0, false);
        maps.power(0, true);
        due.is("17 NEXT of two slots alike", () -> maps.replica(0, 1), 11);
        due.is("17 the state of a slot alone", () -> maps.replica(0, 5), 1);
        maps.raise(0, 3);
        due.is("17 the buffer begins at NEXT", () -> maps.replica(0, 2), 11);
    }

    private void fail() {
        DottedMaps maps = new DottedMaps(2);
        due.is("18 fail at the third", () -> maps.fail(0, 3), true);
        due.is("18 first", () -> maps.count(0, 1, 1), 1);
        due.is("18 another replica does not count", () -> maps.count(1, 1, 1), 1);
        due.is("18 second", () -> maps.count(0, 1, 1), 2);
        due.refusesState("18 third", () -> maps.count(0, 1, 1));
        due.is("18 down", () -> maps.replica(0, 0), 0);
        due.is("18 the failing write counts", () -> maps.replica(0, 4), 3);
        maps.power(0, true);
        due.is("18 it fails once", () -> maps.count(0, 1, 1), 3);
        maps.fail(0, 1);
        due.is("18 fail later in its place", () -> maps.fail(0, 2), true);
        due.is("18 the next holds then", () -> maps.count(0, 1, 1), 4);
        due.refusesState("18 the one after fails", () -> maps.count(0, 1, 1));
        maps.power(0, true);
        maps.fail(0, 1);
        due.is("18 fail at none", () -> maps.fail(0, 0), true);
        due.is("18 none fails then", () -> maps.count(0, 1, 1), 5);
        DottedMaps far = new DottedMaps(2);
        due.is("18 fail at the twentieth", () -> far.fail(0, 20), true);
        for (int i = 0; i < 19; i++) {
            due.is("18 write " + i, () -> far.checkpoint(0), 0);
        }
        due.refusesState("18 the twentieth", () -> far.checkpoint(0));
    }

    private void failRefused() {
        DottedMaps maps = new DottedMaps(2);
        maps.fail(0, 1);
        for (int k : new int[] {-1, 21, Integer.MAX_VALUE, Integer.MIN_VALUE}) {
            due.is("18 fail at " + k, () -> maps.fail(0, k), false);
        }
        for (int r : new int[] {-1, 2, Integer.MAX_VALUE, Integer.MIN_VALUE}) {
            due.is("18 fail of " + r, () -> maps.fail(r, 1), false);
        }
        due.refusesState("18 what was set before stays", () -> maps.raise(0, 1));
    }

    private void failingLogWrite() {
        DottedMaps maps = counted(2);
        maps.fail(0, 1);
        due.refusesState("18 clear that fails", () -> maps.clear(0, 1, 4));
        slots("18 the delta is not in the log", maps, 0, 0, 1, 0, 2, 3);
        maps.power(0, true);
        due.is("18 nothing was taken out", () -> maps.sum(0, 1), 2);
        due.is("18 NEXT is as before", () -> maps.replica(0, 1), 2);
        maps.fail(0, 1);
        due.is("18 clear of nothing makes no write", () -> maps.clear(0, 1, 1), 0);
        due.refusesState("18 erase that fails", () -> maps.erase(0, 0));
        maps.power(0, true);
        due.is("18 nothing was erased", () -> maps.sum(0, 1), 2);
        for (int i = 0; i < 3; i++) {
            int kind = i;
            maps.fail(0, 1);
            due.refusesState("18 a new entry that fails " + i,
                () -> kind == 0 ? maps.raise(0, 1) : kind == 1 ? maps.write(0, 1, 1) : maps.add(0, 1, 1));
            maps.power(0, true);
            due.is("18 and is not there " + i, () -> maps.replica(0, 5), 2);
        }
    }

    private void failingSlots() {
        DottedMaps maps = counted(13);
        maps.fail(0, 1);
        due.refusesState("16 checkpoint that fails", () -> maps.checkpoint(0));
        slots("18 slot 1 is not whole and has its NEXT, the log stays", maps, 12, 6, 1, 0, 1, 16);
        maps.power(0, true);
        due.is("18 all is there from slot 0 and the log", () -> maps.sum(0, 1), 13);
        maps.fail(0, 1);
        due.refusesState("16 checkpoint that fails again", () -> maps.checkpoint(0));
        slots("18 slot 0 is left alone", maps, 12, 6, 1, 0, 1, 17);
        maps.power(0, true);
        due.is("16 checkpoint of the slot that is not whole", () -> maps.checkpoint(0), 13);
        slots("16 slot 1 is whole", maps, 12, 13, 1, 1, 0, 18);
        maps.fail(0, 1);
        due.refusesState("16 checkpoint that fails in slot 0", () -> maps.checkpoint(0));
        slots("18 slot 0 is not whole", maps, 12, 13, 0, 1, 0, 19);
        maps.power(0, true);
        due.is("18 all is there from slot 1", () -> maps.sum(0, 1), 13);
        maps.count(0, 1, 1);
        due.is("16 checkpoint of slot 0", () -> maps.checkpoint(0), 14);
        slots("16 slot 0 is whole", maps, 14, 13, 1, 1, 0, 21);
    }

    private void failingCheckpointBeforeTheLog() {
        DottedMaps maps = counted(6);
        maps.fail(0, 1);
        due.refusesState("18 the checkpoint before the log fails", () -> maps.count(0, 1, 1));
        slots("18 nothing is written besides", maps, 0, 0, 1, 0, 6, 7);
        maps.power(0, true);
        due.is("18 six are left", () -> maps.sum(0, 1), 6);
        maps.fail(0, 2);
        due.refusesState("18 the log after the checkpoint fails", () -> maps.count(0, 1, 1));
        slots("18 the checkpoint is made", maps, 0, 6, 1, 1, 0, 9);
        maps.power(0, true);
        due.is("18 six are left from slot 1", () -> maps.sum(0, 1), 6);
        due.is("18 NEXT from slot 1", () -> maps.replica(0, 1), 6);
        due.is("18 the seventh holds", () -> maps.count(0, 1, 1), 7);
    }

    /** Whichever write fails, what held before it is there afterwards. */
    private void failingAnyWrite() {
        for (int k = 1; k <= 20; k++) {
            DottedMaps maps = new DottedMaps(2);
            maps.fail(0, k);
            int held = 0;
            for (int i = 0; i < 20 && maps.replica(0, 0) == 1; i++) {
                held += Due.answer(() -> maps.count(0, 1, 1)).startsWith("throws") ? 0 : 1;
            }
            int wanted = held;
            due.is("18 down by write " + k, () -> maps.replica(0, 0), 0);
            due.is("18 writes by then " + k, () -> maps.replica(0, 4), k);
            maps.power(0, true);
            due.is("18 sum after write " + k + " failed", () -> maps.sum(0, 1), wanted);
            due.is("18 NEXT after write " + k + " failed", () -> maps.replica(0, 1), wanted);
            due.is("18 next dot after write " + k + " failed", () -> maps.count(0, 1, 1), wanted + 1);
        }
    }

    private void dotsAfterAFailure() {
        DottedMaps maps = new DottedMaps(2);
        maps.fail(0, 1);
        due.refusesState("18 a write that fails", () -> maps.write(0, 1, 7));
        maps.power(0, true);
        due.is("18 its dot is free", () -> maps.add(0, 2, 3), 1);
        due.is("18 the register is not there", () -> maps.sees(0, 1, 2), false);
        due.is("18 the element is", () -> maps.sees(0, 2, 13), true);
        maps.fail(0, 1);
        due.refusesState("18 an add that fails", () -> maps.add(0, 2, 3));
        maps.power(0, true);
        due.is("18 the element before it is still there", () -> maps.known(0, 0, 3), 1);
    }
}
