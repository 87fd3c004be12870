/** Promises 19 and 20 at their edges, the joining of deltas that they show, and the last call of an object. */
public final class InsideEdgeTest {
    private final Due due = new Due();

    public static void main(String[] args) {
        InsideEdgeTest test = new InsideEdgeTest();
        test.emptyBuffer();
        test.whenDown();
        test.acksOfEach();
        test.howManyAreAlive();
        test.knownOfNoneAndAll();
        test.knownOfEach();
        test.knownWhenDown();
        test.joinAliveInBoth();
        test.joinAliveInOne();
        test.joinTakenOutByOne();
        test.joinTakenOutByBoth();
        test.joinBothWays();
        test.lastCall();
        test.due.end();
    }

    private void told(String label, DottedMaps maps, int r, int... answers) {
        for (int what = 0; what < answers.length; what++) {
            int w = what;
            due.is(label + ", what " + what, () -> maps.replica(r, w), answers[what]);
        }
    }

    private void known(String label, DottedMaps maps, int r, int q, int... answers) {
        for (int what = 0; what < answers.length; what++) {
            int w = what;
            due.is(label + ", what " + what, () -> maps.known(r, q, w), answers[what]);
        }
    }

    /** "2 the number of the first delta of its buffer (NEXT when it is empty)": whatever has made it so. */
    private void emptyBuffer() {
        DottedMaps maps = new DottedMaps(2);
        due.is("19 empty at first", () -> maps.replica(0, 2), 0);
        maps.raise(0, 1);
        due.is("19 one delta", () -> maps.replica(0, 2), 0);
        Worlds.bring(maps, 0, 1);
        maps.collect(0);
        due.is("19 empty when collected", () -> maps.replica(0, 2), 1);
        maps.raise(0, 1);
        due.is("19 one delta again", () -> maps.replica(0, 2), 1);
        maps.power(0, false);
        maps.power(0, true);
        due.is("19 empty after coming up", () -> maps.replica(0, 2), 2);
    }

    /** "when it is down, NONE for 1, 2, 5 and from 10 on"; the others are told. */
    private void whenDown() {
        DottedMaps maps = new DottedMaps(4);
        for (int i = 0; i < 8; i++) {
            maps.write(1, 3, i);
        }
        Worlds.bring(maps, 1, 0);
        told("19 up", maps, 1, 1, 8, 0, 2, 9, 1, 0, 6, 1, 1, 8, 0, 0, 0, -1);
        maps.power(1, false);
        told("19 down", maps, 1, 0, -1, -1, 2, 9, -1, 0, 6, 1, 1, -1, -1, -1, -1, -1);
        told("19 another is up", maps, 0, 1, 1, 0, 1, 1, 1, 0, 0, 1, 0, 0, 0, 0, 0, -1);
        maps.power(1, true);
        told("19 up again", maps, 1, 1, 8, 8, 2, 9, 1, 0, 6, 1, 1, 0, 0, 0, 0, -1);
        maps.fail(1, 1);
        due.refusesState("18 it fails", () -> maps.checkpoint(1));
        told("19 down by a failure", maps, 1, 0, -1, -1, 2, 10, -1, 0, 6, 0, 1, -1, -1, -1, -1, -1);
    }

    /** "10 + q its ack for replica q (0 for itself). NONE when there is no such replica (also q)". */
    private void acksOfEach() {
        for (int many = 2; many <= 4; many++) {
            for (int r = 0; r < many; r++) {
                DottedMaps maps = new DottedMaps(many);
                int of = r;
                for (int q = 0; q < many; q++) {
                    maps.raise(r, 1);
                    if (q != r) {
                        Worlds.bring(maps, r, q);
                    }
                }
                for (int q = 0; q < 6; q++) {
                    int what = 10 + q;
                    due.is("19 ack of " + r + " for " + q + " of " + many, () -> maps.replica(of, what),
                        q >= many ? -1 : q == r ? 0 : q + 1);
                }
            }
        }
    }

    private void howManyAreAlive() {
        DottedMaps maps = new DottedMaps(2);
        due.is("19 none alive", () -> maps.replica(0, 5), 0);
        for (int n = 1; n <= 60; n++) {
            int wanted = n;
            maps.count(0, 1, 1);
            due.is("19 alive", () -> maps.replica(0, 5), wanted);
        }
        maps.erase(0, 0);
        due.is("19 none alive again", () -> maps.replica(0, 5), 0);
    }

    /** "0 how many, 1 up to which number all are, 2 the greatest, 3 how many of their entries are alive". */
    private void knownOfNoneAndAll() {
        for (int many : new int[] {0, 1, 2, 31, 32, 33, 59, 60}) {
            DottedMaps maps = new DottedMaps(2);
            for (int n = 1; n <= many; n++) {
                maps.count(0, 1, 1);
            }
            known("20 " + many + " of its own", maps, 0, 0, many, many, many, many);
            known("20 of another", maps, 0, 1, 0, 0, 0, 0);
            if (many > 0) {
                Worlds.bring(maps, 0, 1);
            }
            known("20 " + many + " that came", maps, 1, 0, many, many, many, many);
            maps.erase(1, 0);
            known("20 " + many + " taken out", maps, 1, 0, many, many, many, 0);
            known("20 " + many + " not taken out here", maps, 0, 0, many, many, many, many);
        }
    }

    private void knownOfEach() {
        DottedMaps maps = new DottedMaps(4);
        for (int r = 0; r < 4; r++) {
            for (int n = 0; n <= r; n++) {
                maps.write(r, 1 + r, n);
            }
        }
        for (int r = 1; r < 4; r++) {
            Worlds.bring(maps, r, 0);
        }
        for (int q = 0; q < 4; q++) {
            known("20 of " + q, maps, 0, q, q + 1, q + 1, q + 1, 1);
            known("20 of " + q + " at 3", maps, 3, q, q == 3 ? 4 : 0, q == 3 ? 4 : 0, q == 3 ? 4 : 0, q == 3 ? 1 : 0);
        }
    }

    /** "IllegalStateException (r down)": whether q is down does not matter. */
    private void knownWhenDown() {
        DottedMaps maps = new DottedMaps(2);
        maps.raise(0, 1);
        Worlds.bring(maps, 0, 1);
        maps.power(0, false);
        due.refusesState("20 known to one that is down", () -> maps.known(0, 1, 0));
        due.refusesState("20 known to one that is down, of itself", () -> maps.known(0, 0, 0));
        known("20 known of one that is down", maps, 1, 0, 1, 1, 1, 1);
    }

    /** "alive are the entries alive in both". */
    private void joinAliveInBoth() {
        DottedMaps maps = new DottedMaps(3);
        maps.raise(0, 1);
        Worlds.bring(maps, 0, 1);
        Worlds.bring(maps, 0, 2);
        maps.raise(1, 2);
        maps.gossip(1, 2);
        due.is("13 both have the flag, one is new", () -> maps.deliver(0), 1);
        due.is("8 the flag of both", () -> maps.sees(2, 1, 1), true);
        due.is("8 the new one", () -> maps.sees(2, 2, 1), true);
        due.is("19 and no more", () -> maps.replica(2, 5), 2);
    }

    /** "those alive in one of them whose dots are not known to the other": on both sides. */
    private void joinAliveInOne() {
        DottedMaps maps = new DottedMaps(2);
        maps.write(0, 1, 5);
        maps.write(1, 1, 6);
        maps.gossip(0, 1);
        due.is("13 what is alive in the delta alone", () -> maps.deliver(0), 1);
        due.is("10 is alive", () -> maps.value(1, 1, 0), 5);
        due.is("10 and what is alive in the state alone", () -> maps.value(1, 1, 1), 6);
        known("20 both are known", maps, 1, 0, 1, 1, 1, 1);
        known("20 its own too", maps, 1, 1, 1, 1, 1, 1);
    }

    /** Alive in the one, known to the other: out, be it the state or the delta that has it alive. */
    private void joinTakenOutByOne() {
        DottedMaps state = new DottedMaps(2);
        state.raise(0, 1);
        Worlds.bring(state, 0, 1);
        state.clear(1, 1, 1);
        state.gossip(1, 0);
        due.is("13 alive in the state, known to the delta", () -> state.deliver(0), 1);
        due.is("19 is out", () -> state.replica(0, 5), 0);
        DottedMaps delta = new DottedMaps(3);
        delta.raise(0, 1);
        delta.gossip(0, 2);
        delta.gossip(0, 1);
        delta.deliver(1);
        delta.clear(1, 1, 1);
        delta.gossip(1, 2);
        delta.deliver(2);
        due.is("20 it is known", () -> delta.known(2, 0, 0), 1);
        due.is("13 alive in the delta, known to the state", () -> delta.deliver(0), 2);
        due.is("19 is out too", () -> delta.replica(2, 5), 0);
    }

    private void joinTakenOutByBoth() {
        DottedMaps maps = new DottedMaps(2);
        maps.raise(0, 1);
        Worlds.bring(maps, 0, 1);
        maps.clear(0, 1, 1);
        maps.clear(1, 1, 1);
        maps.gossip(0, 1);
        due.is("13 taken out by both", () -> maps.deliver(0), 2);
        due.is("19 is out", () -> maps.replica(1, 5), 0);
    }

    /** Two that have heard of one another see the same, whatever came first. */
    private void joinBothWays() {
        for (int first = 0; first <= 1; first++) {
            DottedMaps maps = new DottedMaps(2);
            maps.add(0, 12, 1);
            maps.add(1, 12, 1);
            maps.add(0, 12, 2);
            maps.count(1, 3, 4);
            Worlds.bring(maps, first, 1 - first);
            maps.clear(1 - first, 12, 3);
            Worlds.bring(maps, 1 - first, first);
            Worlds.bring(maps, first, 1 - first);
            for (int r = 0; r <= 1; r++) {
                int by = r;
                String at = " at " + r + ", first " + first;
                due.is("8 no element" + at, () -> maps.sees(by, 12, 3), false);
                due.is("9 the count" + at, () -> maps.sum(by, 3), 4);
                known("20 of 0" + at, maps, r, 0, 2, 2, 2, 0);
                known("20 of 1" + at, maps, r, 1, 2, 2, 2, 1);
            }
        }
    }

    /** "An object is used for at most 512 calls": the last of them is answered as the first. */
    private void lastCall() {
        DottedMaps maps = new DottedMaps(2);
        for (int call = 1; call <= 511; call++) {
            if (call <= 59) {
                maps.count(0, 1, 1);
            } else {
                maps.checkpoint(0);
            }
        }
        due.is("2 the 512th call", () -> maps.raise(0, 2), 60);
    }
}
