/** Promises 16 and 17 at their edges: a full log, a full buffer, which slot is written and which one is read. */
public final class LogEdgeTest {
    private final Due due = new Due();

    public static void main(String[] args) {
        LogEdgeTest test = new LogEdgeTest();
        test.takingIn();
        test.takingInOfOthers();
        test.emptyCheckpoint();
        test.checkpointEmptiesTheLog();
        test.slotThatIsNotWhole();
        test.slotWithTheLesserNext();
        test.slotsWithTheSameNext();
        test.slot0ThatIsNotWhole();
        test.powerIsSo();
        test.comingUpWithNothing();
        test.comingUpAtEachLength();
        test.comingUpFromEitherSlot();
        test.comingUpFromSlotsAlike();
        test.comingUpEmptiesTheBuffer();
        test.comingUpWithWhatCameFromOthers();
        test.comingUpForgetsTheFailure();
        test.whatMakesWrites();
        test.due.end();
    }

    private static DottedMaps counted(int many) {
        DottedMaps maps = new DottedMaps(2);
        count(maps, many);
        return maps;
    }

    private static void count(DottedMaps maps, int many) {
        for (int i = 0; i < many; i++) {
            maps.count(0, 1, 1);
        }
    }

    /** NEXT of slot 0 and 1, whether they are whole, the deltas of the log, the writes of replica r. */
    private void slots(String label, DottedMaps maps, int r, int... answers) {
        int[] whats = {6, 7, 8, 9, 3, 4};
        for (int i = 0; i < answers.length; i++) {
            int what = whats[i];
            due.is(label + ", what " + what, () -> maps.replica(r, what), answers[i]);
        }
    }

    /** NEXT of slot 0 or 1 after so many deltas: the checkpoints at 6, 12, 18 .. go to slot 1, 0, 1 .. */
    private static int nextOfSlot(int slot, int deltas) {
        int checkpoints = deltas == 0 ? 0 : (deltas - 1) / 6;
        int last = checkpoints % 2 != slot ? checkpoints - 1 : checkpoints;
        return 6 * Math.max(0, last);
    }

    /** "if the log has 6 deltas, a CHECKPOINT is made first"; "if the buffer has 13 deltas then, the first one goes". */
    private void takingIn() {
        DottedMaps maps = new DottedMaps(2);
        for (int many = 0; many <= 50; many++) {
            int of = many;
            String after = "16 after " + many + " deltas";
            int log = many == 0 ? 0 : (many - 1) % 6 + 1;
            int checkpoints = many == 0 ? 0 : (many - 1) / 6;
            due.is(after + ": NEXT", () -> maps.replica(0, 1), of);
            due.is(after + ": the first of the buffer", () -> maps.replica(0, 2), Math.max(0, many - 12));
            slots(after, maps, 0, nextOfSlot(0, many), nextOfSlot(1, many), 1, many > 6 ? 1 : 0, log, many + checkpoints);
            maps.count(0, 1, 1);
        }
    }

    /** What comes from another replica is taken in the same way. */
    private void takingInOfOthers() {
        DottedMaps maps = new DottedMaps(2);
        for (int many = 1; many <= 20; many++) {
            maps.count(0, 1, 1);
            maps.gossip(0, 1);
            due.is("13 delta " + many, () -> maps.deliver(0), 1);
            maps.deliver(0);
            String after = "16 after " + many + " deltas of another";
            slots(after, maps, 1, nextOfSlot(0, many), nextOfSlot(1, many), 1, many > 6 ? 1 : 0, (many - 1) % 6 + 1,
                many + (many - 1) / 6);
            due.is(after + ": the first of the buffer", () -> maps.replica(1, 2), Math.max(0, many - 12));
        }
    }

    /** A checkpoint with nothing in the log is one all the same. */
    private void emptyCheckpoint() {
        DottedMaps maps = new DottedMaps(2);
        due.is("16 checkpoint of nothing", () -> maps.checkpoint(0), 0);
        slots("16 slot 1 is whole", maps, 0, 0, 0, 1, 1, 0, 1);
        due.is("16 checkpoint of nothing again", () -> maps.checkpoint(0), 0);
        slots("16 it is a write", maps, 0, 0, 0, 1, 1, 0, 2);
    }

    /** "Then the log is empty", with none to six deltas in it; it answers NEXT. */
    private void checkpointEmptiesTheLog() {
        for (int many = 0; many <= 6; many++) {
            DottedMaps maps = counted(many);
            int of = many;
            due.is("16 checkpoint of " + many, () -> maps.checkpoint(0), of);
            slots("16 after a checkpoint of " + many, maps, 0, 0, many, 1, 1, 0, many + 1);
            due.is("16 NEXT after it", () -> maps.replica(0, 1), of);
            due.is("16 the buffer after it", () -> maps.replica(0, 2), 0);
            due.is("16 what is alive after it", () -> maps.replica(0, 5), of);
            count(maps, 6);
            slots("16 six more make none", maps, 0, 0, many, 1, 1, 6, many + 7);
            count(maps, 1);
            due.is("16 the seventh makes one", () -> maps.replica(0, 4), many + 9);
        }
    }

    /** "the slot that is not whole": at first slot 1. */
    private void slotThatIsNotWhole() {
        DottedMaps maps = counted(3);
        maps.checkpoint(0);
        slots("16 slot 1 was not whole", maps, 0, 0, 3, 1, 1, 0);
        DottedMaps failing = new DottedMaps(2);
        failing.fail(0, 1);
        due.refusesState("16 the first checkpoint fails", () -> failing.checkpoint(0));
        slots("16 slot 1 is not whole still", failing, 0, 0, 0, 1, 0, 0, 1);
        failing.power(0, true);
        count(failing, 2);
        due.is("16 the next one", () -> failing.checkpoint(0), 2);
        slots("16 goes to slot 1", failing, 0, 0, 2, 1, 1, 0, 4);
    }

    /** "or, if both are, that with the lesser NEXT": slot 0, then slot 1, in turn. */
    private void slotWithTheLesserNext() {
        DottedMaps maps = counted(1);
        maps.checkpoint(0);
        for (int next = 2; next <= 9; next++) {
            count(maps, 1);
            int wanted = next;
            due.is("16 checkpoint at " + next, () -> maps.checkpoint(0), wanted);
            boolean slot0 = next % 2 == 0;
            slots("16 slots at " + next, maps, 0, slot0 ? next : next - 1, slot0 ? next - 1 : next, 1, 1, 0, 2 * next);
        }
        DottedMaps other = counted(1);
        other.checkpoint(0);
        other.checkpoint(0);
        slots("16 slot 0 is written with no delta since", other, 0, 1, 1, 1, 1, 0, 3);
    }

    /** "(slot 1, if they are the same)": at 0 and later, seen by which one is not whole, or has the new NEXT. */
    private void slotsWithTheSameNext() {
        for (int next : new int[] {0, 1, 5}) {
            for (int since : new int[] {0, 1, 3}) {
                DottedMaps alike = alike(next);
                slots("16 both are the same", alike, 0, next, next, 1, 1, 0);
                count(alike, since);
                due.is("16 checkpoint of slots alike", () -> alike.checkpoint(0), next + since);
                slots("16 slot 1 is written", alike, 0, next, next + since, 1, 1, 0);
                DottedMaps failing = alike(next);
                count(failing, since);
                failing.fail(0, 1);
                due.refusesState("16 checkpoint of slots alike that fails", () -> failing.checkpoint(0));
                slots("16 slot 1 is not whole", failing, 0, next, next, 1, 0, since);
                failing.power(0, true);
                due.is("17 NEXT is there", () -> failing.replica(0, 1), next + since);
                due.is("17 the state is there", () -> failing.sum(0, 1), next + since);
            }
        }
    }

    /** Both slots are whole and have this NEXT. */
    private static DottedMaps alike(int next) {
        DottedMaps maps = counted(next);
        maps.checkpoint(0);
        maps.checkpoint(0);
        return maps;
    }

    /** Slot 0 fails while slot 1 is whole; it is written next, and slot 1 is read. */
    private void slot0ThatIsNotWhole() {
        DottedMaps maps = counted(2);
        maps.checkpoint(0);
        count(maps, 1);
        maps.fail(0, 1);
        due.refusesState("16 slot 0 fails", () -> maps.checkpoint(0));
        slots("18 it has the NEXT that it had", maps, 0, 0, 2, 0, 1, 1, 5);
        maps.power(0, true);
        due.is("17 NEXT from slot 1 and the log", () -> maps.replica(0, 1), 3);
        due.is("17 the state from slot 1 and the log", () -> maps.sum(0, 1), 3);
        maps.fail(0, 1);
        due.refusesState("16 slot 0 fails again", () -> maps.checkpoint(0));
        slots("18 slot 1 is left alone", maps, 0, 0, 2, 0, 1, 1, 6);
        maps.power(0, true);
        due.is("16 slot 0 is written", () -> maps.checkpoint(0), 3);
        slots("16 it is whole", maps, 0, 3, 2, 1, 1, 0, 7);
        Worlds.restart(maps, 0);
        due.is("17 NEXT from slot 0", () -> maps.replica(0, 1), 3);
        due.is("17 the state from slot 0", () -> maps.sum(0, 1), 3);
    }

    /** "true; false when there is no such replica or it is so". */
    private void powerIsSo() {
        for (int r = 0; r < 4; r++) {
            DottedMaps maps = new DottedMaps(4);
            int of = r;
            due.is("17 up when up", () -> maps.power(of, true), false);
            due.is("17 down when up", () -> maps.power(of, false), true);
            for (int q = 0; q < 4; q++) {
                int other = q;
                due.is("17 " + q + " when " + r + " is down", () -> maps.replica(other, 0), q == r ? 0 : 1);
            }
            due.is("17 down when down", () -> maps.power(of, false), false);
            due.is("17 it is down still", () -> maps.replica(of, 0), 0);
            due.is("17 up when down", () -> maps.power(of, true), true);
            due.is("17 it is up", () -> maps.replica(of, 0), 1);
            due.is("17 up when up again", () -> maps.power(of, true), false);
            due.is("17 no write for it", () -> maps.replica(of, 4), 0);
        }
    }

    private void comingUpWithNothing() {
        due.differ("17 a new one that came up is as a new one", () -> new DottedMaps(2),
            Due.after(() -> new DottedMaps(2), m -> m.power(0, false) && m.power(0, true)));
    }

    /**
     * "its state and NEXT are those of the slot .., and then the deltas of the log are joined to the state,
     * NEXT growing by 1 for each".
     */
    private void comingUpAtEachLength() {
        for (int many = 0; many <= 26; many++) {
            DottedMaps maps = counted(many);
            int of = many;
            String at = " after " + many;
            int[] before = new int[7];
            for (int i = 0; i < 7; i++) {
                before[i] = maps.replica(0, 3 + i);
            }
            due.is("17 going down" + at, () -> maps.power(0, false), true);
            due.is("17 coming up" + at, () -> maps.power(0, true), true);
            due.is("17 NEXT" + at, () -> maps.replica(0, 1), of);
            due.is("17 the buffer is empty" + at, () -> maps.replica(0, 2), of);
            for (int i = 0; i < 7; i++) {
                int what = 3 + i;
                due.is("17 as before, what " + what + at, () -> maps.replica(0, what), before[i]);
            }
            due.is("17 the sum" + at, () -> maps.sum(0, 1), of);
            due.is("17 the dots" + at, () -> maps.known(0, 0, 1), of);
            due.is("17 the next dot" + at, () -> maps.count(0, 1, 1), many + 1);
            due.is("17 in the buffer alone" + at, () -> maps.replica(0, 2), of);
            due.is("17 NEXT after it" + at, () -> maps.replica(0, 1), many + 1);
        }
    }

    /** "of two, that with the greater NEXT": what was taken out since the other one is not there again. */
    private void comingUpFromEitherSlot() {
        for (int checkpoints = 1; checkpoints <= 4; checkpoints++) {
            DottedMaps maps = new DottedMaps(2);
            for (int i = 1; i <= checkpoints; i++) {
                maps.write(0, 12, i);
                maps.checkpoint(0);
            }
            int last = checkpoints;
            slots("17 after " + checkpoints, maps, 0, checkpoints % 2 == 0 ? last : last - 1,
                checkpoints % 2 == 0 ? last - 1 : last, 1, 1, 0);
            Worlds.restart(maps, 0);
            due.is("17 NEXT of the later slot", () -> maps.replica(0, 1), last);
            due.is("17 its register", () -> maps.value(0, 12, 0), last);
            due.is("17 and no other", () -> maps.replica(0, 5), 1);
            due.is("17 what was taken out is known", () -> maps.known(0, 0, 0), last);
            maps.clear(0, 12, 2);
            Worlds.restart(maps, 0);
            due.is("17 what the log takes out of it is out", () -> maps.replica(0, 5), 0);
            due.is("17 NEXT with the log", () -> maps.replica(0, 1), last + 1);
        }
    }

    /** "slot 0 if they are the same": both have the same state then. */
    private void comingUpFromSlotsAlike() {
        for (int next : new int[] {0, 1, 5}) {
            DottedMaps maps = alike(next);
            Worlds.restart(maps, 0);
            due.is("17 NEXT of slots alike", () -> maps.replica(0, 1), next);
            due.is("17 the state of slots alike", () -> maps.sum(0, 1), next);
            count(maps, 2);
            Worlds.restart(maps, 0);
            due.is("17 NEXT of slots alike with a log", () -> maps.replica(0, 1), next + 2);
            due.is("17 the state of slots alike with a log", () -> maps.sum(0, 1), next + 2);
        }
    }

    /** "the buffer is empty, all acks are 0": of one replica alone. */
    private void comingUpEmptiesTheBuffer() {
        DottedMaps maps = new DottedMaps(3);
        count(maps, 3);
        for (int q = 1; q <= 2; q++) {
            maps.gossip(0, q);
            maps.deliver(0);
            maps.deliver(0);
        }
        maps.raise(1, 2);
        maps.gossip(1, 0);
        maps.deliver(0);
        maps.deliver(0);
        due.is("17 its ack for 1 before", () -> maps.replica(0, 11), 3);
        due.is("17 its ack for 2 before", () -> maps.replica(0, 12), 3);
        due.is("17 the first of its buffer before", () -> maps.replica(0, 2), 0);
        Worlds.restart(maps, 0);
        due.is("17 its ack for 1", () -> maps.replica(0, 11), 0);
        due.is("17 its ack for 2", () -> maps.replica(0, 12), 0);
        due.is("17 the first of its buffer", () -> maps.replica(0, 2), 4);
        due.is("17 the ack of another for it", () -> maps.replica(1, 10), 2);
        due.is("17 the buffer of another", () -> maps.replica(1, 2), 0);
        count(maps, 12);
        due.is("17 twelve in the buffer", () -> maps.replica(0, 2), 4);
        count(maps, 1);
        due.is("17 thirteen", () -> maps.replica(0, 2), 5);
    }

    private void comingUpWithWhatCameFromOthers() {
        DottedMaps maps = new DottedMaps(3);
        maps.add(1, 12, 4);
        maps.add(2, 12, 4);
        for (int r = 1; r <= 2; r++) {
            maps.gossip(r, 0);
            maps.deliver(0);
            maps.deliver(0);
        }
        maps.checkpoint(0);
        maps.add(0, 12, 4);
        Worlds.restart(maps, 0);
        due.is("17 the element is there", () -> maps.sees(0, 12, 14), true);
        due.is("17 once", () -> maps.replica(0, 5), 1);
        due.is("17 what was taken out of 1 is known", () -> maps.known(0, 1, 2), 1);
        due.is("17 what was taken out of 2 is known", () -> maps.known(0, 2, 2), 1);
        due.is("17 NEXT", () -> maps.replica(0, 1), 3);
    }

    /** "(up true; a failure that was set is set no more)": going down does not do that, coming up does. */
    private void comingUpForgetsTheFailure() {
        for (int k : new int[] {1, 2, 20}) {
            due.differ("17 a failure at " + k + " is forgotten",
                Due.after(() -> counted(3), m -> m.power(0, false) && m.power(0, true)),
                Due.after(() -> counted(3), m -> m.fail(0, k) && m.power(0, false) && m.power(0, true)));
        }
        due.differ("17 the failure of another is not", Due.after(() -> counted(3), m -> m.fail(0, 2)),
            Due.after(() -> counted(3), m -> m.fail(0, 2) && m.power(1, false) && m.power(1, true)));
    }

    /** Changes, takings in and checkpoints are writes, and nothing else is. */
    private void whatMakesWrites() {
        DottedMaps maps = new DottedMaps(2);
        int[] writes = {0};
        wrote("2 raise", maps, writes, maps.raise(0, 1), 1);
        wrote("3 write", maps, writes, maps.write(0, 1, 1), 1);
        wrote("4 add", maps, writes, maps.add(0, 1, 1), 1);
        wrote("5 count", maps, writes, maps.count(0, 1, 1), 1);
        wrote("6 clear", maps, writes, maps.clear(0, 1, 1), 1);
        wrote("6 clear of nothing", maps, writes, maps.clear(0, 1, 1), 0);
        wrote("7 erase", maps, writes, maps.erase(0, 1), 1);
        wrote("7 erase of nothing", maps, writes, maps.erase(0, 1), 0);
        wrote("16 checkpoint", maps, writes, maps.checkpoint(0), 1);
        wrote("8 sees", maps, writes, maps.sees(0, 1, 1), 0);
        wrote("9 sum", maps, writes, maps.sum(0, 1), 0);
        wrote("11 keys", maps, writes, maps.keys(0, 0), 0);
        wrote("12 gossip", maps, writes, maps.gossip(0, 1), 0);
        wrote("13 deliver to another", maps, writes, maps.deliver(0), 0);
        wrote("13 deliver an ACK", maps, writes, maps.deliver(0), 0);
        wrote("15 collect", maps, writes, maps.collect(0), 0);
        wrote("17 power off", maps, writes, maps.power(0, false), 0);
        wrote("17 power on", maps, writes, maps.power(0, true), 0);
        wrote("18 fail", maps, writes, maps.fail(0, 2), 0);
        wrote("20 known", maps, writes, maps.known(0, 0, 0), 0);
        maps.raise(1, 1);
        maps.gossip(1, 0);
        maps.lose(0, true);
        wrote("13 deliver what is new", maps, writes, maps.deliver(0), 1);
        wrote("13 deliver it again", maps, writes, maps.deliver(0), 0);
        due.refusesState("18 a write that fails", () -> maps.raise(0, 1));
        wrote("18 a write that fails", maps, writes, null, 1);
    }

    private void wrote(String label, DottedMaps maps, int[] writes, Object answer, int more) {
        writes[0] += more;
        due.is(label + " answered " + answer + ", writes", () -> maps.replica(0, 4), writes[0]);
    }
}
