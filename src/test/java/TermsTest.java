import java.io.IOException;
import java.nio.file.Files;
import java.nio.file.Path;
import java.util.List;
import java.util.function.Function;
import java.util.function.IntFunction;
import java.util.function.Supplier;

/**
 * The document's section "Terms", sentence by sentence: each one is quoted and then shown by the
 * answers of calls. At the end the quotes together must be the whole section.
 *
 * <p>Counts are often powers of 2 here, so that a sum tells which of them are alive, not only how many.
 */
public final class TermsTest {
    private static final Path DOCUMENT = Path.of("../shared/DOC.md");

    private final Due due = new Due();
    private final StringBuilder quotes = new StringBuilder();
    private String sentence;

    public static void main(String[] args) throws IOException {
        TermsTest test = new TermsTest();
        test.entries();
        test.deltas();
        test.replicas();
        test.takingIn();
        test.checkpoints();
        test.failures();
        test.comingUp();
        test.messages();
        test.delivering();
        test.refusing();
        test.quotesAreTheSection();
        test.due.end();
    }

    private void entries() {
        replicasAreNumbered();
        pathsHaveDigits();
        dotsHaveNumbers();
        entriesHaveKindsAndNumbers();
        dotsAreGivenOnce();
    }

    private void deltas() {
        deltaHasAliveAndKnown();
        stateIsEmptyAtFirst();
        joinOfTwo();
        changeMakesADelta();
    }

    private void replicas() {
        replicaHas();
        slotsAtFirst();
    }

    private void takingIn() {
        fullLogMakesACheckpoint();
        deltaIsInTheLog();
        deltaIsInStateAndBuffer();
        bufferKeepsTheLatest();
        bufferKeepsDeltasAsTheyCame();
        collectLeavesTheLatest();
    }

    private void checkpoints() {
        slotIsWritten();
        logIsEmptied();
    }

    private void failures() {
        failureOfAWrite();
        failureLeavesTheRestUndone();
    }

    private void messages() {
        messagesAreInOrder();
        dataHas();
        ackHas();
    }

    private void delivering() {
        dataToOneThatIsDown();
        dataThatChanges();
        dataThatFails();
        ackGoesBack();
        ackArrives();
    }

    private void refusing() {
        argumentsFirst();
        refusedCallsChangeNothing();
    }

    private void quote(String text) {
        sentence = text;
        quotes.append(text).append(' ');
    }

    private void is(String what, Supplier<Object> call, Object want) {
        due.is("Terms, \"" + sentence + "\" " + what, call, want);
    }

    /** Asks what = 0, 1, 2 .. */
    private void told(String what, IntFunction<Object> ask, int... answers) {
        for (int i = 0; i < answers.length; i++) {
            int w = i;
            is(what + ", what " + i, () -> ask.apply(w), answers[i]);
        }
    }

    /** NEXT of slot 0 and 1, whether they are whole, how many deltas the log has, and the writes. */
    private void slots(String what, DottedMaps maps, int r, int... answers) {
        int[] whats = {6, 7, 8, 9, 3, 4};
        told(what, i -> maps.replica(r, whats[i]), answers);
    }

    /** Replica r counts the powers of 2 from one on, up to another one that it does not count. */
    private static void countBits(DottedMaps maps, int r, int from, int to) {
        for (int bit = from; bit < to; bit++) {
            maps.count(r, 1, 1 << bit);
        }
    }

    private static int bits(int from, int to) {
        return (1 << to) - (1 << from);
    }

    private static DottedMaps counted(int many) {
        DottedMaps maps = new DottedMaps(2);
        countBits(maps, 0, 0, many);
        return maps;
    }

    private void replicasAreNumbered() {
        quote("REPLICAS are 0 .. the number of them less 1.");
        for (int many = 2; many <= 4; many++) {
            DottedMaps maps = new DottedMaps(many);
            for (int r = -1; r <= 5; r++) {
                int of = r;
                boolean there = r >= 0 && r < many;
                is(r + " of " + many, () -> maps.replica(of, 0), there ? 1 : DottedMaps.NONE);
                is(r + " of " + many + " counts", () -> maps.count(of, 1, 1), there ? 1 : Due.ILLEGAL_ARGUMENT);
            }
        }
    }

    private void pathsHaveDigits() {
        quote("A PATH has one, two or three digits 1 .. 4 (as a decimal number); it is BELOW the paths of its first "
            + "one or two digits.");
        for (int path = -450; path <= 4500; path++) {
            int at = path;
            boolean fits = String.valueOf(path).matches("[1-4]{1,3}");
            is("path " + path, () -> new DottedMaps(2).raise(0, at), fits ? 1 : Due.ILLEGAL_ARGUMENT);
        }
        int[][] below = {{12, 1}, {123, 1}, {123, 12}, {444, 4}, {444, 44}, {1, 1}, {12, 12}, {123, 123}};
        for (int[] pair : below) {
            is(pair[0] + " below " + pair[1], () -> erased(pair[0], pair[1]), 1);
        }
        int[][] beside = {{1, 12}, {12, 123}, {12, 2}, {123, 2}, {123, 3}, {123, 23}, {123, 13}, {123, 124}, {1, 2}};
        for (int[] pair : beside) {
            is(pair[0] + " not below " + pair[1], () -> erased(pair[0], pair[1]), 0);
        }
    }

    private static int erased(int path, int above) {
        DottedMaps maps = new DottedMaps(2);
        maps.raise(0, path);
        return maps.erase(0, above);
    }

    private void dotsHaveNumbers() {
        quote("A DOT is a replica r and a number n, 1 .. 60.");
        DottedMaps maps = new DottedMaps(2);
        for (int n = 1; n <= 60; n++) {
            int wanted = n;
            is("dot " + n + " of 0", () -> maps.count(0, 1, 1), wanted);
        }
        is("dot 61 of 0", () -> maps.count(0, 1, 1), Due.ILLEGAL_STATE);
        is("dot 1 of 1", () -> maps.count(1, 1, 1), 1);
    }

    private void entriesHaveKindsAndNumbers() {
        quote("An ENTRY has a dot, a path, a KIND (1 FLAG, 2 REGISTER, 3 ELEMENT, 4 COUNT) and a number, an int.");
        List<Function<DottedMaps, Integer>> makers = List.of(m -> m.raise(1, 34), m -> m.write(1, 34, 6),
            m -> m.add(1, 34, 6), m -> m.count(1, 34, 6));
        for (int made = 1; made <= 4; made++) {
            DottedMaps maps = new DottedMaps(2);
            Function<DottedMaps, Integer> maker = makers.get(made - 1);
            is("its dot", () -> maker.apply(maps), 1);
            for (int kind = 1; kind <= 4; kind++) {
                int asked = kind;
                is("kind " + made + " seen as " + kind, () -> maps.sees(1, 34, asked), made == kind);
                is("kind " + made + " at another path", () -> maps.sees(1, 3, asked), false);
            }
            is("the number of an element", () -> maps.sees(1, 34, 16), made == 3);
            is("the number of a count", () -> maps.sum(1, 34), made == 4 ? 6 : 0);
            is("the number of a register", () -> maps.value(1, 34, 0), made == 2 ? 6 : Due.NO_SUCH_ELEMENT);
        }
        DottedMaps ends = new DottedMaps(2);
        ends.write(0, 1, Integer.MIN_VALUE);
        ends.write(1, 1, Integer.MAX_VALUE);
        ends.count(1, 1, Integer.MIN_VALUE);
        Worlds.bring(ends, 1, 0);
        is("the least int", () -> ends.value(0, 1, 0), Integer.MIN_VALUE);
        is("the greatest int", () -> ends.value(0, 1, 1), Integer.MAX_VALUE);
        is("the least int counted", () -> ends.sum(0, 1), Integer.MIN_VALUE);
    }

    private void dotsAreGivenOnce() {
        quote("No two entries have one dot.");
        DottedMaps maps = new DottedMaps(2);
        is("the first", () -> maps.raise(0, 1), 1);
        is("taken out", () -> maps.clear(0, 1, 1), 1);
        is("the second", () -> maps.write(0, 1, 1), 2);
        Worlds.restart(maps, 0);
        is("the third, after coming up from the log", () -> maps.add(0, 1, 1), 3);
        maps.erase(0, 0);
        maps.checkpoint(0);
        Worlds.restart(maps, 0);
        is("the fourth, after coming up from a slot", () -> maps.count(0, 1, 1), 4);
        Worlds.bring(maps, 0, 1);
        is("all four are known elsewhere", () -> maps.known(1, 0, 0), 4);
    }

    private void deltaHasAliveAndKnown() {
        quote("A DELTA has entries that are ALIVE, and dots that are KNOWN, among them those of its entries.");
        DottedMaps maps = new DottedMaps(2);
        maps.raise(0, 1);
        maps.gossip(0, 1);
        is("alive in a delta of one entry", () -> maps.message(0, 4), 1);
        is("known to it", () -> maps.message(0, 5), 1);
        maps.raise(0, 2);
        maps.clear(0, 1, 1);
        maps.gossip(0, 1);
        is("alive in a delta of one that is alive and one that is not", () -> maps.message(1, 4), 1);
        is("known to it", () -> maps.message(1, 5), 2);
    }

    private void stateIsEmptyAtFirst() {
        quote("The STATE of a replica is a delta (empty at first).");
        for (int r = 0; r < 4; r++) {
            DottedMaps maps = new DottedMaps(4);
            int of = r;
            is("alive at " + r, () -> maps.replica(of, 5), 0);
            is("keys at " + r, () -> maps.keys(of, 0), 0);
            for (int q = 0; q < 4; q++) {
                int dots = q;
                told("known to " + r + " of " + q, w -> maps.known(of, dots, w), 0, 0, 0, 0);
            }
        }
    }

    /** All that can be of an entry: alive, taken out or unknown on the one side, and on the other. */
    private void joinOfTwo() {
        quote("To JOIN two of them: known are the dots known to either; alive are the entries alive in both, and those "
            + "alive in one of them whose dots are not known to the other.");
        for (int from = 0; from <= 1; from++) {
            DottedMaps maps = apart();
            int to = 1 - from;
            Worlds.restart(maps, from);
            int sender = from;
            is("the whole state is sent by " + from, () -> maps.gossip(sender, to), 2);
            is("and taken in", () -> maps.deliver(0), 1);
            is("alive in both", () -> maps.sees(to, 11, 1), true);
            is("alive at 0, not known to 1", () -> maps.sees(to, 3, 1), true);
            is("alive at 1, not known to 0", () -> maps.sees(to, 2, 1), true);
            is("alive at 1, known to 0", () -> maps.sees(to, 12, 1), false);
            is("alive at 0, known to 1", () -> maps.sees(to, 13, 1), false);
            is("alive in neither", () -> maps.sees(to, 14, 1), false);
            is("alive in neither, known to one", () -> maps.sees(to, 4, 1), false);
            is("alive in all", () -> maps.replica(to, 5), 3);
            is("known of 0", () -> maps.known(to, 0, 0), 6);
            is("known of 1", () -> maps.known(to, 1, 0), 1);
        }
    }

    private static DottedMaps apart() {
        DottedMaps maps = new DottedMaps(2);
        for (int path = 11; path <= 14; path++) {
            maps.raise(0, path);
        }
        Worlds.bring(maps, 0, 1);
        maps.clear(1, 13, 1);
        maps.clear(1, 14, 1);
        maps.raise(1, 2);
        maps.clear(0, 12, 1);
        maps.clear(0, 14, 1);
        maps.raise(0, 3);
        maps.raise(0, 4);
        maps.clear(0, 4, 1);
        return maps;
    }

    private void changeMakesADelta() {
        quote("A CHANGE at a replica makes a delta of what is alive in its state: TAKEN OUT are some entries, whose dots "
            + "are known to the delta, and there may be a NEW entry, alive and known, with the replica's dot of the "
            + "number that is 1 more than the greatest number of its own dots known to its state.");
        DottedMaps maps = new DottedMaps(2);
        for (int v = 1; v <= 3; v++) {
            maps.write(1, 12, v);
        }
        maps.write(0, 12, 4);
        Worlds.bring(maps, 1, 0);
        is("of both replicas one is alive", () -> maps.replica(0, 5), 2);
        Worlds.bring(maps, 0, 1);
        is("its own dots count alone", () -> maps.write(0, 12, 5), 2);
        maps.gossip(0, 1);
        told("one new, two taken out", w -> maps.message(0, w), 1, 0, 1, 3, 1, 3);
        maps.deliver(0);
        maps.deliver(0);
        is("what was taken out is out elsewhere", () -> maps.value(1, 12, 0), 5);
        is("all of it", () -> maps.replica(1, 5), 1);
        is("a change without a new entry", () -> maps.clear(0, 12, 2), 1);
        maps.gossip(0, 1);
        told("none new, one taken out", w -> maps.message(0, w), 1, 0, 1, 4, 0, 1);
        maps.deliver(0);
        maps.deliver(0);
        is("what is known is no less so when it is out", () -> maps.write(0, 12, 6), 3);
        maps.gossip(0, 1);
        told("one new, none taken out", w -> maps.message(0, w), 1, 0, 1, 5, 1, 1);
    }

    private void replicaHas() {
        quote("A replica is UP or DOWN; it has NEXT, 0 at first, how many deltas it has TAKEN IN; a BUFFER of the latest "
            + "of them, numbered 0, 1, .. as they were taken in; ACKS, for each other replica a number, 0 at first; a "
            + "LOG; two SLOTS, each with a state, its NEXT and a mark that it is whole, and a COUNT of WRITES.");
        DottedMaps maps = new DottedMaps(3);
        for (int r = 0; r < 3; r++) {
            int of = r;
            told("at first " + r, w -> maps.replica(of, w), 1, 0, 0, 0, 0, 0, 0, 0, 1, 0, 0, 0, 0, DottedMaps.NONE);
        }
        countBits(maps, 0, 0, 2);
        Worlds.bring(maps, 0, 1);
        countBits(maps, 1, 2, 3);
        Worlds.bring(maps, 1, 2);
        told("replica 0 has two of its own", w -> maps.replica(0, w), 1, 2, 0, 2, 2, 2, 0, 0, 1, 0, 0, 2, 0);
        told("replica 1 one that came and one of its own", w -> maps.replica(1, w), 1, 2, 0, 2, 2, 3, 0, 0, 1, 0, 0, 0, 2);
        told("replica 2 one that came", w -> maps.replica(2, w), 1, 1, 0, 1, 1, 3, 0, 0, 1, 0, 0, 0, 0);
        maps.power(2, false);
        is("down", () -> maps.replica(2, 0), 0);
        is("the others are up", () -> maps.replica(0, 0) + maps.replica(1, 0), 2);
    }

    private void slotsAtFirst() {
        quote("At first slot 0 is whole, with the empty state and NEXT 0; slot 1 is not whole, with NEXT 0; the log is "
            + "empty.");
        for (int r = 0; r < 2; r++) {
            DottedMaps maps = new DottedMaps(2);
            int of = r;
            slots("at first", maps, r, 0, 0, 1, 0, 0, 0);
            Worlds.restart(maps, r);
            is("NEXT of slot 0", () -> maps.replica(of, 1), 0);
            is("the state of slot 0", () -> maps.replica(of, 5) + maps.known(of, 0, 0) + maps.known(of, 1, 0), 0);
        }
    }

    private void fullLogMakesACheckpoint() {
        quote("To TAKE IN a delta: if the log has 6 deltas, a CHECKPOINT is made first.");
        DottedMaps maps = counted(6);
        slots("six deltas", maps, 0, 0, 0, 1, 0, 6, 6);
        countBits(maps, 0, 6, 7);
        slots("the seventh", maps, 0, 0, 6, 1, 1, 1, 8);
        countBits(maps, 0, 7, 12);
        slots("twelve deltas", maps, 0, 0, 6, 1, 1, 6, 13);
        maps.clear(0, 1, 4);
        slots("the thirteenth", maps, 0, 12, 6, 1, 1, 1, 15);
        DottedMaps other = counted(0);
        for (int bit = 0; bit < 7; bit++) {
            countBits(other, 0, bit, bit + 1);
            Worlds.bring(other, 0, 1);
        }
        slots("the seventh that comes from another", other, 1, 0, 6, 1, 1, 1, 8);
    }

    private void deltaIsInTheLog() {
        quote("Then the delta is written at the end of the log.");
        for (int many = 1; many <= 6; many++) {
            DottedMaps maps = counted(many);
            slots("after " + many, maps, 0, 0, 0, 1, 0, many, many);
            Worlds.restart(maps, 0);
            is("read from the log after " + many, () -> maps.sum(0, 1), bits(0, many));
        }
        DottedMaps maps = counted(2);
        Worlds.bring(maps, 0, 1);
        slots("one that came", maps, 1, 0, 0, 1, 0, 1, 1);
        Worlds.restart(maps, 1);
        is("read from the log of another", () -> maps.sum(1, 1), bits(0, 2));
    }

    private void deltaIsInStateAndBuffer() {
        quote("Then it is joined to the state, and put at the end of the buffer with the number NEXT, which grows by 1; "
            + "if the buffer has 13 deltas then, the first one goes.");
        DottedMaps maps = new DottedMaps(2);
        for (int many = 1; many <= 30; many++) {
            int of = many;
            countBits(maps, 0, many - 1, many);
            is("the state after " + many, () -> maps.sum(0, 1), bits(0, many));
            is("NEXT after " + many, () -> maps.replica(0, 1), of);
            is("the first of the buffer after " + many, () -> maps.replica(0, 2), Math.max(0, many - 12));
        }
    }

    /** What is sent from an ack on brings just what the other one lacks: so these deltas are there. */
    private void bufferKeepsTheLatest() {
        for (int many : new int[] {12, 13, 14, 20, 25}) {
            for (int ack = many - 12; ack < many; ack++) {
                DottedMaps maps = counted(ack);
                Worlds.bring(maps, 0, 1);
                countBits(maps, 0, ack, many);
                String at = " from " + ack + " of " + many;
                is("gossip" + at, () -> maps.gossip(0, 1), 1);
                told("sent" + at, w -> maps.message(0, w), 1, 0, 1, many, many - ack, many - ack);
                is("it comes" + at, () -> maps.deliver(0), 1);
                is("all is there then" + at, () -> maps.sum(1, 1), bits(0, many));
            }
        }
    }

    /** Replica 2 takes in a flag that it knows to be out, with one that is new: it sends both on as they came. */
    private void bufferKeepsDeltasAsTheyCame() {
        DottedMaps maps = new DottedMaps(3);
        maps.raise(0, 1);
        Worlds.bring(maps, 0, 1);
        maps.clear(1, 1, 1);
        Worlds.bring(maps, 1, 2);
        Worlds.bring(maps, 2, 1);
        maps.raise(0, 3);
        Worlds.bring(maps, 0, 2);
        is("two are taken in", () -> maps.replica(2, 1), 2);
        is("the flag stays out", () -> maps.sees(2, 1, 1), false);
        is("gossip of the second delta", () -> maps.gossip(2, 1), 1);
        told("it has both flags", w -> maps.message(0, w), 1, 2, 1, 2, 2, 2);
        is("gossip of both deltas", () -> maps.gossip(2, 0), 1);
        told("joined they have one", w -> maps.message(1, w), 1, 2, 0, 2, 1, 2);
        is("the second delta comes", () -> maps.deliver(0), 1);
        is("the flag stays out there too", () -> maps.sees(1, 1, 1), false);
        is("the other one is seen", () -> maps.sees(1, 3, 1), true);
    }

    private void collectLeavesTheLatest() {
        for (int ack = 1; ack <= 11; ack++) {
            DottedMaps maps = counted(ack);
            Worlds.bring(maps, 0, 1);
            countBits(maps, 0, ack, 12);
            int gone = ack;
            is("collect of " + ack, () -> maps.collect(0), gone);
            is("gossip of the rest", () -> maps.gossip(0, 1), 1);
            is("it comes", () -> maps.deliver(0), 1);
            is("all is there after a collect of " + ack, () -> maps.sum(1, 1), bits(0, 12));
        }
    }

    private void slotIsWritten() {
        quote("A CHECKPOINT: the slot that is not whole, or, if both are, that with the lesser NEXT (slot 1, if they are "
            + "the same), is written: it has the state and NEXT, and is whole.");
        DottedMaps maps = counted(1);
        is("the first", () -> maps.checkpoint(0), 1);
        slots("slot 1 was not whole", maps, 0, 0, 1, 1, 1, 0, 2);
        is("the second", () -> maps.checkpoint(0), 1);
        slots("slot 0 had the lesser", maps, 0, 1, 1, 1, 1, 0, 3);
        countBits(maps, 0, 1, 3);
        is("the third", () -> maps.checkpoint(0), 3);
        slots("both had the same", maps, 0, 1, 3, 1, 1, 0, 6);
        countBits(maps, 0, 3, 4);
        is("the fourth", () -> maps.checkpoint(0), 4);
        slots("slot 0 had the lesser again", maps, 0, 4, 3, 1, 1, 0, 8);
        countBits(maps, 0, 4, 5);
        maps.fail(0, 1);
        is("the fifth fails", () -> maps.checkpoint(0), Due.ILLEGAL_STATE);
        slots("slot 1 had the lesser", maps, 0, 4, 3, 1, 0, 1, 10);
        maps.power(0, true);
        is("the sixth", () -> maps.checkpoint(0), 5);
        slots("slot 1 was not whole again", maps, 0, 4, 5, 1, 1, 0, 11);
        maps.fail(0, 1);
        is("the seventh fails", () -> maps.checkpoint(0), Due.ILLEGAL_STATE);
        slots("slot 0 had the lesser then", maps, 0, 4, 5, 0, 1, 0, 12);
        maps.power(0, true);
        is("the eighth", () -> maps.checkpoint(0), 5);
        slots("slot 0 was not whole", maps, 0, 5, 5, 1, 1, 0, 13);
        Worlds.restart(maps, 0);
        is("the state of a slot", () -> maps.sum(0, 1), bits(0, 5));
        is("NEXT of a slot", () -> maps.replica(0, 1), 5);
        maps.clear(0, 1, 4);
        maps.checkpoint(0);
        Worlds.restart(maps, 0);
        is("what is known to the state of a slot", () -> maps.count(0, 1, 1), 6);
        is("what is alive in it", () -> maps.sum(0, 1), 1);
    }

    private void logIsEmptied() {
        quote("Then the log is empty.");
        for (int many = 0; many <= 6; many++) {
            DottedMaps maps = counted(many);
            maps.checkpoint(0);
            is("after a checkpoint of " + many, () -> maps.replica(0, 3), 0);
            countBits(maps, 0, many, many + 6);
            is("six more find room", () -> maps.replica(0, 3), 6);
        }
    }

    private void failureOfAWrite() {
        quote("A FAILURE can be set for one of the next writes: when that is made, the replica is DOWN; a delta is not in "
            + "the log then, a slot is not whole then (and has the NEXT that it had).");
        for (int k = 1; k <= 6; k++) {
            DottedMaps maps = new DottedMaps(2);
            maps.fail(0, k);
            countBits(maps, 0, 0, k - 1);
            is("the write before " + k, () -> maps.replica(0, 0), 1);
            is("write " + k, () -> maps.count(0, 1, 1 << 20), Due.ILLEGAL_STATE);
            is("down after write " + k, () -> maps.replica(0, 0), 0);
            slots("a delta that is not in the log", maps, 0, 0, 0, 1, 0, k - 1, k);
        }
        DottedMaps maps = counted(18);
        slots("before", maps, 0, 12, 6, 1, 1, 6, 20);
        maps.fail(0, 1);
        is("a checkpoint", () -> maps.checkpoint(0), Due.ILLEGAL_STATE);
        is("down after it", () -> maps.replica(0, 0), 0);
        slots("a slot that is not whole", maps, 0, 12, 6, 1, 0, 6, 21);
    }

    private void failureLeavesTheRestUndone() {
        quote("What was about to be done besides is not done; no delta is taken in.");
        DottedMaps maps = counted(6);
        maps.fail(0, 1);
        is("a change that begins with a checkpoint", () -> maps.clear(0, 1, 4), Due.ILLEGAL_STATE);
        slots("no delta is written, the log is not emptied", maps, 0, 0, 0, 1, 0, 6, 7);
        maps.power(0, true);
        is("nothing was taken out", () -> maps.sum(0, 1), bits(0, 6));
        is("NEXT", () -> maps.replica(0, 1), 6);
        maps.fail(0, 2);
        is("a change that fails behind its checkpoint", () -> maps.clear(0, 1, 4), Due.ILLEGAL_STATE);
        slots("the checkpoint was made", maps, 0, 0, 6, 1, 1, 0, 9);
        maps.power(0, true);
        is("nothing was taken out then", () -> maps.sum(0, 1), bits(0, 6));
        is("NEXT then", () -> maps.replica(0, 1), 6);
        is("nothing of it is sent", () -> maps.gossip(0, 1), 2);
        told("the state is", w -> maps.message(0, w), 1, 0, 1, 6, 6, 6);
        maps.fail(0, 1);
        is("a new entry that fails", () -> maps.count(0, 1, 1 << 20), Due.ILLEGAL_STATE);
        maps.power(0, true);
        is("is not there", () -> maps.sum(0, 1), bits(0, 6));
        is("and has no dot", () -> maps.known(0, 0, 0), 6);
    }

    private void comingUp() {
        quote("When a replica comes UP again, its state and NEXT are those of the slot that is whole (of two, that with the "
            + "greater NEXT, slot 0 if they are the same), and then the deltas of the log are joined to the state, NEXT "
            + "growing by 1 for each; the buffer is empty (as if all deltas before NEXT had gone from it), all acks are "
            + "0.");
        for (int many = 0; many <= 25; many++) {
            DottedMaps maps = counted(many);
            Worlds.bring(maps, 0, 1);
            int of = many;
            is("its ack before", () -> maps.replica(0, 11), of);
            int[] kept = new int[7];
            for (int i = 0; i < kept.length; i++) {
                kept[i] = maps.replica(0, 3 + i);
            }
            Worlds.restart(maps, 0);
            told("log, writes, alive and slots after " + many, w -> maps.replica(0, 3 + w), kept);
            is("the state after " + many, () -> maps.sum(0, 1), bits(0, many));
            is("NEXT after " + many, () -> maps.replica(0, 1), of);
            is("the buffer after " + many, () -> maps.replica(0, 2), of);
            is("its ack after " + many, () -> maps.replica(0, 11), 0);
            is("gossip after " + many, () -> maps.gossip(0, 1), many == 0 ? 0 : 2);
            maps.lose(0, false);
            countBits(maps, 0, many, many + 1);
            is("gossip with one in the buffer", () -> maps.gossip(0, 1), many == 0 ? 1 : 2);
        }
        comingUpFromEachSlot();
        comingUpOfOneAlone();
    }

    private void comingUpFromEachSlot() {
        for (int checkpoints = 1; checkpoints <= 3; checkpoints++) {
            DottedMaps maps = new DottedMaps(2);
            for (int v = 1; v <= checkpoints; v++) {
                maps.write(0, 1, v);
                maps.checkpoint(0);
            }
            int last = checkpoints;
            Worlds.restart(maps, 0);
            is("the register of the later slot", () -> maps.value(0, 1, 0), last);
            is("and no other", () -> maps.replica(0, 5), 1);
            is("NEXT of the later slot", () -> maps.replica(0, 1), last);
            maps.fail(0, 1);
            is("a checkpoint that fails", () -> maps.checkpoint(0), Due.ILLEGAL_STATE);
            maps.power(0, true);
            is("the register of the slot that is whole", () -> maps.value(0, 1, 0), last);
            is("NEXT of the slot that is whole", () -> maps.replica(0, 1), last);
        }
    }

    /** Its acks for all others are 0; the acks and the buffers of the others stay. */
    private void comingUpOfOneAlone() {
        for (int r = 0; r < 3; r++) {
            DottedMaps maps = new DottedMaps(3);
            for (int from = 0; from < 3; from++) {
                countBits(maps, from, from, from + 1);
                Worlds.bring(maps, from, (from + 1) % 3);
                Worlds.bring(maps, from, (from + 2) % 3);
            }
            int[][] acks = {{0, 1, 1}, {2, 0, 2}, {3, 3, 0}};
            for (int of = 0; of < 3; of++) {
                int asked = of;
                told("acks of " + of + " before", q -> maps.replica(asked, 10 + q), acks[of]);
            }
            Worlds.restart(maps, r);
            for (int of = 0; of < 3; of++) {
                int asked = of;
                String when = " of " + of + " after " + r + " has come up";
                told("acks" + when, q -> maps.replica(asked, 10 + q), of == r ? new int[3] : acks[of]);
                is("the first of the buffer" + when, () -> maps.replica(asked, 2), of == r ? 3 : 0);
            }
        }
    }

    private void messagesAreInOrder() {
        quote("MESSAGES under way, at most 24, are in the order in which they were sent.");
        DottedMaps maps = new DottedMaps(3);
        for (int number = 1; number <= 22; number++) {
            countBits(maps, 0, number, number + 1);
            maps.gossip(0, 1 + number % 2);
        }
        maps.deliver(4);
        maps.lose(7, true);
        maps.lose(0, false);
        int[] numbers = {2, 3, 4, 6, 7, 8, 9, 10, 11, 12, 13, 14, 15, 16, 17, 18, 19, 20, 21, 22, 5, 9};
        for (int k = 0; k < numbers.length; k++) {
            int at = k;
            is("number " + k, () -> maps.message(at, 3), numbers[k]);
        }
        is("22", () -> maps.message(-1, 0), 22);
        is("the 23rd", () -> maps.gossip(0, 1), 2);
        is("the 24th", () -> maps.gossip(0, 2), 2);
        is("a 25th", () -> maps.gossip(0, 1), Due.ILLEGAL_STATE);
        is("a 25th by sending one again", () -> maps.lose(0, true), false);
        is("24", () -> maps.message(-1, 0), 24);
        is("the last goes to 2", () -> maps.message(23, 2), 2);
    }

    private void dataHas() {
        quote("DATA has a sender, a receiver, a number, and a delta.");
        DottedMaps maps = new DottedMaps(4);
        countBits(maps, 3, 0, 2);
        Worlds.bring(maps, 3, 2);
        maps.raise(2, 4);
        maps.raise(2, 4);
        maps.gossip(2, 1);
        told("one delta that came and two of its own", w -> maps.message(0, w), 1, 2, 1, 3, 3, 4, DottedMaps.NONE);
        maps.erase(2, 0);
        is("it has the delta that was sent", () -> maps.deliver(0), 1);
        is("the counts", () -> maps.sum(1, 1), bits(0, 2));
        is("the flag", () -> maps.sees(1, 4, 1), true);
    }

    private void ackHas() {
        quote("An ACK has a sender, a receiver and a number.");
        DottedMaps maps = new DottedMaps(4);
        countBits(maps, 3, 0, 5);
        maps.gossip(3, 1);
        maps.deliver(0);
        told("of five deltas, no delta of its own", w -> maps.message(0, w), 0, 1, 3, 5, 0, 0, DottedMaps.NONE);
    }

    private void dataToOneThatIsDown() {
        quote("To deliver DATA: if the receiver is down, it is lost.");
        DottedMaps maps = counted(1);
        maps.gossip(0, 1);
        maps.power(1, false);
        is("delivered", () -> maps.deliver(0), 0);
        is("no message is left, and none comes", () -> maps.message(-1, 0), 0);
        is("no write", () -> maps.replica(1, 4), 0);
        maps.power(1, true);
        is("nothing has come", () -> maps.known(1, 0, 0), 0);
    }

    private void dataThatChanges() {
        quote("Otherwise, if joining the delta would change the receiver's state (in what is alive or known), it is taken "
            + "in; if that fails, nothing more happens.");
        DottedMaps maps = counted(1);
        maps.gossip(0, 1);
        maps.lose(0, true);
        is("in both", () -> maps.deliver(0), 1);
        is("in neither", () -> maps.deliver(0), 2);
        is("one is taken in", () -> maps.replica(1, 1) * 10 + maps.replica(1, 4), 11);
        maps.clear(0, 1, 4);
        maps.gossip(0, 1);
        is("in what is alive", () -> maps.deliver(2), 1);
        is("two are taken in", () -> maps.replica(1, 1) * 10 + maps.replica(1, 4), 22);
        countBits(maps, 0, 1, 2);
        maps.clear(0, 1, 4);
        maps.gossip(0, 1);
        is("in what is known", () -> maps.deliver(3), 1);
        is("three are taken in", () -> maps.replica(1, 1) * 10 + maps.replica(1, 4), 33);
        is("all is known", () -> maps.known(1, 0, 0), 2);
        is("nothing is alive", () -> maps.replica(1, 5), 0);
    }

    private void dataThatFails() {
        for (int k = 1; k <= 2; k++) {
            DottedMaps maps = Worlds.logged();
            maps.fail(0, k);
            is("that fails at write " + k, () -> maps.deliver(0), 0);
            is("down", () -> maps.replica(0, 0), 0);
            is("no ACK", () -> maps.message(-1, 0), 0);
            maps.power(0, true);
            is("nothing has come", () -> maps.known(0, 1, 0), 0);
            is("NEXT", () -> maps.replica(0, 1), 8);
        }
    }

    private void ackGoesBack() {
        quote("Then an ACK with the number goes back to the sender, if there are fewer than 24 messages.");
        DottedMaps maps = counted(5);
        maps.gossip(0, 1);
        maps.lose(0, true);
        maps.deliver(0);
        told("for what was taken in, behind the other", w -> maps.message(1, w), 0, 1, 0, 5);
        maps.deliver(0);
        told("for what changed nothing", w -> maps.message(1, w), 0, 1, 0, 5);
        is("two in all", () -> maps.message(-1, 0), 2);
        DottedMaps full = counted(5);
        for (int i = 0; i < 24; i++) {
            full.gossip(0, 1);
        }
        is("the delivered one is under way no more", () -> full.deliver(3), 1);
        told("so that its ACK is the 24th", w -> full.message(23, w), 0, 1, 0, 5);
    }

    private void ackArrives() {
        quote("To deliver an ACK: if its receiver is down, it is lost; otherwise the receiver's ack for its sender becomes "
            + "the number, if that is greater.");
        DottedMaps maps = new DottedMaps(3);
        for (int i = 0; i < 4; i++) {
            countBits(maps, 0, i, i + 1);
            maps.gossip(0, 1);
        }
        for (int i = 0; i < 4; i++) {
            maps.deliver(0);
        }
        is("the ACK of 2", () -> maps.deliver(1), 3);
        is("is greater than 0", () -> maps.replica(0, 11), 2);
        is("the ack for another", () -> maps.replica(0, 12), 0);
        is("the ACK of 1", () -> maps.deliver(0), 3);
        is("is not greater than 2", () -> maps.replica(0, 11), 2);
        is("the ACK of 3", () -> maps.deliver(0), 3);
        is("is greater than 2", () -> maps.replica(0, 11), 3);
        maps.power(0, false);
        is("the ACK of 4 to one that is down", () -> maps.deliver(0), 0);
        is("no message is left", () -> maps.message(-1, 0), 0);
        maps.power(0, true);
        is("it did nothing", () -> maps.replica(0, 11), 0);
    }

    private void argumentsFirst() {
        quote("Every method tests first whether its arguments are as said (IllegalArgumentException when one is not), then "
            + "whether the replica is up where one is needed (IllegalStateException when it is down, and when a failure "
            + "happens in the method).");
        List<Function<DottedMaps, Object>> wrong = List.of(m -> m.raise(0, 0), m -> m.write(0, 0, 1),
            m -> m.add(0, 1, 10), m -> m.count(0, 1, 0), m -> m.clear(0, 1, 5), m -> m.erase(0, 5),
            m -> m.sees(0, 1, 5), m -> m.sum(0, 0), m -> m.value(0, 0, 0), m -> m.keys(0, 5), m -> m.gossip(0, 0),
            m -> m.collect(-1), m -> m.checkpoint(3), m -> m.known(0, 0, 4), m -> m.deliver(5));
        List<Function<DottedMaps, Object>> changes = List.of(m -> m.raise(0, 1), m -> m.write(0, 12, 1),
            m -> m.add(0, 123, 4), m -> m.count(0, 2, 1), m -> m.clear(0, 12, 2), m -> m.erase(0, 0),
            m -> m.checkpoint(0));
        List<Function<DottedMaps, Object>> looks = List.of(m -> m.sees(0, 1, 1), m -> m.sum(0, 1),
            m -> m.value(0, 12, 0), m -> m.keys(0, 0), m -> m.gossip(0, 1), m -> m.collect(0), m -> m.known(0, 1, 0));
        for (int i = 0; i < wrong.size(); i++) {
            Function<DottedMaps, Object> call = wrong.get(i);
            is("wrong call " + i + " when up", () -> call.apply(Worlds.busy()), Due.ILLEGAL_ARGUMENT);
            is("wrong call " + i + " when down", () -> call.apply(Worlds.down()), Due.ILLEGAL_ARGUMENT);
        }
        for (int i = 0; i < changes.size(); i++) {
            Function<DottedMaps, Object> call = changes.get(i);
            is("change " + i + " when down", () -> call.apply(Worlds.down()), Due.ILLEGAL_STATE);
            DottedMaps failing = Worlds.busy();
            failing.fail(0, 1);
            is("change " + i + " that fails", () -> call.apply(failing), Due.ILLEGAL_STATE);
            is("down after change " + i, () -> failing.replica(0, 0), 0);
        }
        for (int i = 0; i < looks.size(); i++) {
            Function<DottedMaps, Object> call = looks.get(i);
            is("look " + i + " when down", () -> call.apply(Worlds.down()), Due.ILLEGAL_STATE);
        }
        notNeededUp();
    }

    private void notNeededUp() {
        is("gossip to one that is down", () -> Worlds.down().gossip(1, 0), 1);
        is("known of one that is down", () -> Worlds.down().known(1, 0, 0), 4);
        is("deliver to one that is down", () -> Worlds.down().deliver(4), 0);
        is("lose of what goes to one that is down", () -> Worlds.down().lose(4, true), true);
        is("fail of one that is down", () -> Worlds.down().fail(0, 1), true);
        is("power of one that is down", () -> Worlds.down().power(0, true), true);
        is("replica of one that is down", () -> Worlds.down().replica(0, 0), 0);
        is("message to one that is down", () -> Worlds.down().message(4, 2), 0);
    }

    private void refusedCallsChangeNothing() {
        quote("A method that throws changes nothing else than what a failure leaves.");
        due.leaves("Terms, a wrong argument", Worlds::busy, m -> m.count(0, 2, 0), Due.ILLEGAL_ARGUMENT);
        due.leaves("Terms, no such message", Worlds::busy, m -> m.deliver(5), Due.ILLEGAL_ARGUMENT);
        due.leaves("Terms, one that is down", Worlds::down, m -> m.erase(0, 0), Due.ILLEGAL_STATE);
        due.leaves("Terms, no dot is left", Worlds::spent, m -> m.write(0, 1, 1), Due.ILLEGAL_STATE);
        due.leaves("Terms, 24 messages", Worlds::crowded, m -> m.gossip(0, 1), Due.ILLEGAL_STATE);
        due.leaves("Terms, no such value", Worlds::busy, m -> m.value(0, 12, 2), Due.NO_SUCH_ELEMENT);
        due.differ("Terms, a failure leaves one that is down, and a write more",
            Due.after(Worlds::busy, m -> m.power(0, false)),
            Due.after(Worlds::busy, m -> m.fail(0, 1) ? m.erase(0, 0) : -1), "replica(0, 4): 10, 11");
    }

    private void quotesAreTheSection() throws IOException {
        if (!Files.exists(DOCUMENT)) {
            System.out.println(DOCUMENT + " is not there: the quotes are not compared with it");
            return;
        }
        String text = Files.readString(DOCUMENT);
        int begin = text.indexOf("## Terms") + "## Terms".length();
        String section = text.substring(begin, text.indexOf("## Promise 1", begin)).replaceAll("```(text)?", " ");
        due.is("Terms, all sentences are quoted", () -> oneLine(quotes.toString()), oneLine(section));
    }

    private static String oneLine(String text) {
        return text.strip().replaceAll("\\s+", " ");
    }
}
