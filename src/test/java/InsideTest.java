/** Promises 19 and 20: what a replica is asked about itself and about dots. */
public final class InsideTest {
    private final Due due = new Due();

    public static void main(String[] args) {
        InsideTest test = new InsideTest();
        test.constant();
        test.replica();
        test.replicaWhenDown();
        test.replicaOfNone();
        test.known();
        test.knownFromAfar();
        test.knownRefused();
        test.due.end();
    }

    private void constant() {
        due.is("19 NONE", () -> DottedMaps.NONE, -1);
    }

    /** Three replicas; replica 1 has changed eight times, and two of its messages have arrived at 0. */
    private static DottedMaps used() {
        DottedMaps maps = new DottedMaps(3);
        for (int i = 0; i < 8; i++) {
            maps.write(1, 1 + i % 2, i);
            if (i % 4 == 3) {
                maps.gossip(1, 0);
                maps.deliver(0);
                maps.deliver(0);
            }
        }
        maps.raise(1, 3);
        return maps;
    }

    private void told(String label, DottedMaps maps, int r, int... answers) {
        for (int what = 0; what < answers.length; what++) {
            int w = what;
            due.is(label + ", what " + what, () -> maps.replica(r, w), answers[what]);
        }
    }

    private void replica() {
        DottedMaps maps = used();
        told("19 replica 1", maps, 1, 1, 9, 0, 3, 10, 3, 0, 6, 1, 1, 8, 0, 0, -1);
        told("19 replica 0", maps, 0, 1, 2, 0, 2, 2, 2, 0, 0, 1, 0, 0, 0, 0, -1);
        for (int i = 0; i < 5; i++) {
            maps.raise(1, 3);
        }
        due.is("19 the first of the buffer", () -> maps.replica(1, 2), 2);
    }

    private void replicaWhenDown() {
        DottedMaps maps = used();
        maps.power(1, false);
        told("19 replica 1 when down", maps, 1, 0, -1, -1, 3, 10, -1, 0, 6, 1, 1, -1, -1, -1, -1);
    }

    private void replicaOfNone() {
        DottedMaps maps = new DottedMaps(2);
        for (int r : new int[] {-1, 2, 4, Integer.MAX_VALUE, Integer.MIN_VALUE}) {
            for (int what = 0; what < 12; what++) {
                int w = what;
                due.is("19 replica " + r, () -> maps.replica(r, w), -1);
            }
        }
        for (int what : new int[] {-1, -10, 12, 13, 14, 20, Integer.MAX_VALUE, Integer.MIN_VALUE}) {
            due.is("19 what " + what, () -> maps.replica(0, what), -1);
        }
    }

    private void known(String label, DottedMaps maps, int r, int q, int... answers) {
        for (int what = 0; what < answers.length; what++) {
            int w = what;
            due.is(label + ", what " + what, () -> maps.known(r, q, w), answers[what]);
        }
    }

    private void known() {
        DottedMaps maps = used();
        known("20 its own", maps, 1, 1, 9, 9, 9, 3);
        known("20 of another", maps, 0, 1, 8, 8, 8, 2);
        known("20 of one that has none", maps, 1, 2, 0, 0, 0, 0);
        known("20 by one that has heard nothing", maps, 2, 1, 0, 0, 0, 0);
        maps.erase(1, 0);
        known("20 what is taken out is known", maps, 1, 1, 9, 9, 9, 0);
        DottedMaps full = new DottedMaps(2);
        for (int i = 0; i < 60; i++) {
            full.count(0, 1, 1);
        }
        known("20 all sixty", full, 0, 0, 60, 60, 60, 60);
    }

    private void knownFromAfar() {
        DottedMaps maps = new DottedMaps(3);
        maps.raise(0, 1);
        maps.raise(0, 2);
        maps.raise(0, 3);
        maps.gossip(0, 1);
        maps.deliver(0);
        maps.clear(1, 3, 1);
        maps.raise(0, 4);
        known("20 the one that took out", maps, 1, 0, 3, 3, 3, 2);
        maps.gossip(1, 2);
        maps.lose(1, true);
        maps.power(2, false);
        maps.deliver(1);
        maps.power(2, true);
        known("20 a lost message tells nothing", maps, 2, 0, 0, 0, 0, 0);
        maps.deliver(1);
        known("20 dots that came by another", maps, 2, 0, 3, 3, 3, 2);
        known("20 a taking out brings no dot", maps, 2, 1, 0, 0, 0, 0);
        known("20 what was not sent", maps, 0, 0, 4, 4, 4, 4);
    }

    private void knownRefused() {
        DottedMaps maps = new DottedMaps(2);
        for (int wrong : new int[] {-1, 2, 4, Integer.MAX_VALUE, Integer.MIN_VALUE}) {
            due.refusesArguments("20 known to " + wrong, () -> maps.known(wrong, 0, 0));
            due.refusesArguments("20 known of " + wrong, () -> maps.known(0, wrong, 0));
        }
        for (int what : new int[] {-1, 4, Integer.MAX_VALUE, Integer.MIN_VALUE}) {
            due.refusesArguments("20 what " + what, () -> maps.known(0, 0, what));
        }
        maps.power(0, false);
        due.refusesState("20 known when down", () -> maps.known(0, 1, 0));
        due.refusesArguments("20 arguments before being up", () -> maps.known(0, 2, 0));
        due.is("20 of one that is down", () -> maps.known(1, 0, 0), 0);
    }
}
