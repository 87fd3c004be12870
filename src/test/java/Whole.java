import java.util.LinkedHashMap;
import java.util.Map;
import java.util.function.Supplier;

/**
 * An object seen from many sides: calls of the face, also after coming up and after all messages are
 * delivered, each with its answer.
 *
 * <p>An object is good for 512 calls, and some looks change it: so each look is taken at an object of
 * its own, made anew in the same way (which may take 150 calls).
 */
final class Whole {
    static final String COME_UP = "come up, ";
    static final String DELIVERED = "delivered, ";

    private static final int[] PATHS = {1, 12, 123, 2, 44, 444};
    private static final int REPLICAS = 4;
    private static final int MOST_MESSAGES = 24;

    private final Map<String, String> seen = new LinkedHashMap<>();

    private Whole() { }

    static Map<String, String> of(Supplier<DottedMaps> world) {
        Whole whole = new Whole();
        whole.replicas("", world.get());
        whole.messages(world.get());
        for (int r = 0; r < REPLICAS; r++) {
            whole.sight("", world.get(), r);
            whole.sightAfterComingUp(world.get(), r);
            whole.failure(world.get(), r);
        }
        whole.gossip(world.get());
        whole.deliver(world.get());
        return whole.seen;
    }

    private void note(String call, Supplier<Object> answer) {
        seen.put(call, Due.answer(answer));
    }

    private void replicas(String when, DottedMaps maps) {
        for (int r = 0; r < REPLICAS; r++) {
            replica(when, maps, r);
        }
    }

    private void replica(String when, DottedMaps maps, int r) {
        for (int what = 0; what < 10 + REPLICAS; what++) {
            int w = what;
            note(when + "replica(" + r + ", " + what + ")", () -> maps.replica(r, w));
        }
        for (int q = 0; q < REPLICAS; q++) {
            for (int what = 0; what < 4; what++) {
                int of = q;
                int w = what;
                note(when + "known(" + r + ", " + q + ", " + what + ")", () -> maps.known(r, of, w));
            }
        }
    }

    private void messages(DottedMaps maps) {
        note("message(-1, 0)", () -> maps.message(-1, 0));
        for (int k = 0; k < MOST_MESSAGES; k++) {
            for (int what = 0; what < 6; what++) {
                int m = k;
                int w = what;
                note("message(" + k + ", " + what + ")", () -> maps.message(m, w));
            }
        }
    }

    private void sight(String when, DottedMaps maps, int r) {
        note(when + "keys(" + r + ", 0)", () -> maps.keys(r, 0));
        for (int path : PATHS) {
            String at = r + ", " + path;
            note(when + "keys(" + at + ")", () -> maps.keys(r, path));
            note(when + "sum(" + at + ")", () -> maps.sum(r, path));
            for (int k = 0; k < 3; k++) {
                int place = k;
                note(when + "value(" + at + ", " + k + ")", () -> maps.value(r, path, place));
            }
            for (int kind = 1; kind <= 19; kind++) {
                int of = kind;
                note(when + "sees(" + at + ", " + kind + ")", () -> maps.sees(r, path, of));
            }
        }
    }

    /** What its slots and its log have, which no call tells before. */
    private void sightAfterComingUp(DottedMaps maps, int r) {
        note(COME_UP + "power(" + r + ", false)", () -> maps.power(r, false));
        note(COME_UP + "power(" + r + ", true)", () -> maps.power(r, true));
        replica(COME_UP, maps, r);
        sight(COME_UP, maps, r);
    }

    /** For which of the next writes a failure is set. */
    private void failure(DottedMaps maps, int r) {
        for (int i = 1; i <= 21; i++) {
            note("checkpoint(" + r + ") number " + i, () -> maps.checkpoint(r));
        }
    }

    /** What the buffers have, as far as the acks let it be told. */
    private void gossip(DottedMaps maps) {
        for (int i = 0; i < MOST_MESSAGES; i++) {
            maps.lose(0, false);
        }
        for (int r = 0; r < REPLICAS; r++) {
            for (int q = 0; q < REPLICAS; q++) {
                int to = q;
                int from = r;
                String call = "gossip(" + r + ", " + q + ")";
                note(call, () -> maps.gossip(from, to));
                for (int what = 3; what < 6; what++) {
                    int w = what;
                    note(call + ", message(0, " + what + ")", () -> maps.message(0, w));
                }
                maps.lose(0, false);
            }
        }
    }

    /** What the messages under way bring, and their answers with them. */
    private void deliver(DottedMaps maps) {
        for (int i = 1; i <= 2 * MOST_MESSAGES; i++) {
            note("deliver(0) number " + i, () -> maps.deliver(0));
        }
        replicas(DELIVERED, maps);
    }
}
