/** Objects in the states that tests begin with, each made by fewer than 150 calls; and calls that go together. */
final class Worlds {
    private Worlds() { }

    /** Replica r sends to q what there is, and hears that it arrived; no other message is under way. */
    static void bring(DottedMaps maps, int r, int q) {
        if (maps.gossip(r, q) != 0) {
            maps.deliver(0);
            maps.deliver(0);
        }
    }

    static void restart(DottedMaps maps, int r) {
        maps.power(r, false);
        maps.power(r, true);
    }

    /**
     * Three replicas with all kinds of entries, acks, whole slots, and a failure set for a later write of
     * each; five messages are under way: an ACK from 2 to 0, one from 0 to 1, DATA to 2 twice, DATA from 1 to 0.
     */
    static DottedMaps busy() {
        DottedMaps maps = new DottedMaps(3);
        maps.raise(0, 1);
        maps.write(0, 12, 5);
        maps.add(0, 123, 4);
        maps.count(0, 2, 7);
        maps.gossip(0, 1);
        maps.deliver(0);
        maps.deliver(0);
        maps.gossip(0, 2);
        maps.deliver(0);
        maps.write(1, 12, 6);
        maps.count(1, 2, -3);
        maps.clear(0, 1, 1);
        maps.raise(0, 44);
        maps.add(0, 444, 9);
        maps.write(0, 12, 8);
        maps.gossip(1, 0);
        maps.deliver(1);
        maps.gossip(0, 2);
        maps.gossip(1, 2);
        maps.add(1, 444, 9);
        maps.gossip(1, 0);
        maps.checkpoint(1);
        maps.fail(0, 3);
        maps.fail(1, 1);
        maps.fail(2, 20);
        return maps;
    }

    /** Busy, and replica 0 is down. */
    static DottedMaps down() {
        DottedMaps maps = busy();
        maps.power(0, false);
        return maps;
    }

    /** Busy, and 24 messages are under way. */
    static DottedMaps crowded() {
        DottedMaps maps = busy();
        for (int k = 0; maps.message(-1, 0) < 24; k++) {
            maps.lose(k, true);
        }
        return maps;
    }

    /** Replica 0 has given all its dots; its next write is to fail, so that a write would be seen. */
    static DottedMaps spent() {
        DottedMaps maps = new DottedMaps(2);
        for (int n = 1; n <= 60; n++) {
            maps.write(0, 1 + n % 2, n);
        }
        maps.fail(0, 1);
        return maps;
    }

    /** The log of replica 0 has six deltas, both its slots are whole, and a message is under way to it. */
    static DottedMaps logged() {
        DottedMaps maps = new DottedMaps(2);
        maps.raise(0, 1);
        maps.write(0, 12, 5);
        maps.checkpoint(0);
        for (int n = 1; n <= 6; n++) {
            maps.count(0, 2, n);
        }
        maps.raise(1, 44);
        maps.gossip(1, 0);
        return maps;
    }
}
