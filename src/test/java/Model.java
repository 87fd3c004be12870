import java.util.ArrayList;
import java.util.HashMap;
import java.util.HashSet;
import java.util.List;
import java.util.Map;
import java.util.NoSuchElementException;
import java.util.Set;
import java.util.TreeSet;

/** The document told once more with the Java library's collections, as near to its words as can be. */
final class Model {
    record Dot(int r, int n) { }

    record Entry(Dot dot, String path, int kind, int number) { }

    static final class Delta {
        final Map<Dot, Entry> alive = new HashMap<>();
        final Set<Dot> known = new HashSet<>();

        static Delta join(Delta a, Delta b) {
            Delta joined = new Delta();
            joined.known.addAll(a.known);
            joined.known.addAll(b.known);
            joined.keepOf(a, b);
            joined.keepOf(b, a);
            return joined;
        }

        private void keepOf(Delta one, Delta other) {
            for (Entry entry : one.alive.values()) {
                if (other.alive.containsKey(entry.dot()) || !other.known.contains(entry.dot())) {
                    alive.put(entry.dot(), entry);
                }
            }
        }

        boolean same(Delta other) {
            return alive.equals(other.alive) && known.equals(other.known);
        }
    }

    record Numbered(int number, Delta delta) { }

    record Slot(Delta state, int next, boolean whole) { }

    record Message(boolean data, int sender, int receiver, int number, Delta delta) { }

    static final class Failure extends RuntimeException {
        private static final long serialVersionUID = 1L;
    }

    static final class Replica {
        boolean up = true;
        int next;
        int writes;
        int failingWrite;
        Delta state = new Delta();
        List<Numbered> buffer = new ArrayList<>();
        Map<Integer, Integer> acks = new HashMap<>();
        List<Delta> log = new ArrayList<>();
        Slot[] slots = {new Slot(new Delta(), 0, true), new Slot(new Delta(), 0, false)};

        boolean failsNow() {
            writes++;
            if (failingWrite == writes) {
                failingWrite = 0;
                up = false;
                return true;
            }
            return false;
        }

        void makeCheckpoint() {
            int s;
            if (slots[0].whole() && slots[1].whole()) {
                s = slots[0].next() == slots[1].next() ? 1 : slots[0].next() < slots[1].next() ? 0 : 1;
            } else {
                s = slots[0].whole() ? 1 : 0;
            }
            if (failsNow()) {
                slots[s] = new Slot(new Delta(), slots[s].next(), false);
                throw new Failure();
            }
            slots[s] = new Slot(state, next, true);
            log.clear();
        }

        void takeIn(Delta delta) {
            if (log.size() == 6) {
                makeCheckpoint();
            }
            if (failsNow()) {
                throw new Failure();
            }
            log.add(delta);
            state = Delta.join(state, delta);
            buffer.add(new Numbered(next, delta));
            next++;
            if (buffer.size() == 13) {
                buffer.remove(0);
            }
        }

        void comeUp() {
            int s;
            if (slots[0].whole() && slots[1].whole()) {
                s = slots[0].next() >= slots[1].next() ? 0 : 1;
            } else {
                s = slots[0].whole() ? 0 : 1;
            }
            state = slots[s].state();
            next = slots[s].next();
            for (Delta delta : log) {
                state = Delta.join(state, delta);
                next++;
            }
            buffer.clear();
            acks.replaceAll((q, ack) -> 0);
            failingWrite = 0;
            up = true;
        }
    }

    private final List<Replica> replicas = new ArrayList<>();
    private final List<Message> messages = new ArrayList<>();

    Model(int many) {
        int n = many < 2 ? 2 : many > 4 ? 4 : many;
        for (int r = 0; r < n; r++) {
            Replica replica = new Replica();
            for (int q = 0; q < n; q++) {
                if (q != r) {
                    replica.acks.put(q, 0);
                }
            }
            replicas.add(replica);
        }
    }

    private boolean there(int r) {
        return 0 <= r && r < replicas.size();
    }

    private static boolean path(int path) {
        return String.valueOf(path).matches("[1-4]{1,3}");
    }

    private static boolean kind(int kind) {
        return Set.of(1, 2, 3, 4).contains(kind) || kind >= 10 && kind <= 19;
    }

    private static void test(boolean arguments) {
        if (!arguments) {
            throw new IllegalArgumentException();
        }
    }

    private Replica up(int r) {
        if (!replicas.get(r).up) {
            throw new IllegalStateException();
        }
        return replicas.get(r);
    }

    private static List<Entry> at(Replica replica, int path, int kind) {
        List<Entry> found = new ArrayList<>();
        for (Entry entry : replica.state.alive.values()) {
            boolean ofKind = kind < 10 ? entry.kind() == kind : entry.kind() == 3 && entry.number() == kind - 10;
            if (entry.path().equals(String.valueOf(path)) && ofKind) {
                found.add(entry);
            }
        }
        return found;
    }

    private static List<Entry> under(Replica replica, String prefix) {
        List<Entry> found = new ArrayList<>();
        for (Entry entry : replica.state.alive.values()) {
            if (entry.path().startsWith(prefix)) {
                found.add(entry);
            }
        }
        return found;
    }

    private static void change(Replica replica, List<Entry> out, Entry fresh) {
        Delta delta = new Delta();
        for (Entry entry : out) {
            delta.known.add(entry.dot());
        }
        if (fresh != null) {
            delta.known.add(fresh.dot());
            delta.alive.put(fresh.dot(), fresh);
        }
        try {
            replica.takeIn(delta);
        } catch (Failure e) {
            throw new IllegalStateException();
        }
    }

    private int put(int r, int path, int kind, int number, List<Entry> out) {
        Replica replica = up(r);
        int n = known(r, r, 2) + 1;
        if (n > 60) {
            throw new IllegalStateException();
        }
        change(replica, out, new Entry(new Dot(r, n), String.valueOf(path), kind, number));
        return n;
    }

    private static int takeOut(Replica replica, List<Entry> out) {
        if (!out.isEmpty()) {
            change(replica, out, null);
        }
        return out.size();
    }

    int raise(int r, int path) {
        test(there(r) && path(path));
        return put(r, path, 1, 0, at(up(r), path, 1));
    }

    int write(int r, int path, int v) {
        test(there(r) && path(path));
        return put(r, path, 2, v, at(up(r), path, 2));
    }

    int add(int r, int path, int e) {
        test(there(r) && path(path) && 0 <= e && e <= 9);
        return put(r, path, 3, e, at(up(r), path, 10 + e));
    }

    int count(int r, int path, int n) {
        test(there(r) && path(path) && n != 0);
        return put(r, path, 4, n, List.of());
    }

    int clear(int r, int path, int kind) {
        test(there(r) && path(path) && kind(kind));
        return takeOut(up(r), at(up(r), path, kind));
    }

    int erase(int r, int path) {
        test(there(r) && (path == 0 || path(path)));
        return takeOut(up(r), under(up(r), path == 0 ? "" : String.valueOf(path)));
    }

    boolean sees(int r, int path, int kind) {
        test(there(r) && path(path) && kind(kind));
        return !at(up(r), path, kind).isEmpty();
    }

    int sum(int r, int path) {
        test(there(r) && path(path));
        int sum = 0;
        for (Entry entry : at(up(r), path, 4)) {
            sum += entry.number();
        }
        return sum;
    }

    int value(int r, int path, int k) {
        test(there(r) && path(path));
        TreeSet<Integer> numbers = new TreeSet<>();
        for (Entry entry : at(up(r), path, 2)) {
            numbers.add(entry.number());
        }
        if (k < 0 || k >= numbers.size()) {
            throw new NoSuchElementException();
        }
        return new ArrayList<>(numbers).get(k);
    }

    int keys(int r, int path) {
        test(there(r) && (path == 0 || path(path)));
        Replica replica = up(r);
        int sum = 0;
        for (int d = 1; d <= 4; d++) {
            if (!under(replica, (path == 0 ? "" : String.valueOf(path)) + d).isEmpty()) {
                sum += (int) Math.pow(2, d);
            }
        }
        return sum;
    }

    int gossip(int r, int q) {
        test(there(r) && there(q) && r != q);
        Replica replica = up(r);
        if (messages.size() == 24) {
            throw new IllegalStateException();
        }
        int ack = replica.acks.get(q);
        if (ack >= replica.next) {
            return 0;
        }
        Delta join = new Delta();
        int joined = 0;
        for (Numbered numbered : replica.buffer) {
            if (numbered.number() >= ack) {
                join = Delta.join(join, numbered.delta());
                joined++;
            }
        }
        boolean all = joined == replica.next - ack;
        messages.add(new Message(true, r, q, replica.next, all ? join : replica.state));
        return all ? 1 : 2;
    }

    int deliver(int k) {
        test(0 <= k && k < messages.size());
        Message message = messages.remove(k);
        Replica receiver = replicas.get(message.receiver());
        if (!receiver.up) {
            return 0;
        }
        if (!message.data()) {
            receiver.acks.merge(message.sender(), message.number(), Math::max);
            return 3;
        }
        boolean changes = !Delta.join(receiver.state, message.delta()).same(receiver.state);
        if (changes) {
            try {
                receiver.takeIn(message.delta());
            } catch (Failure e) {
                return 0;
            }
        }
        if (messages.size() < 24) {
            messages.add(new Message(false, message.receiver(), message.sender(), message.number(), new Delta()));
        }
        return changes ? 1 : 2;
    }

    boolean lose(int k, boolean twice) {
        if (k < 0 || k >= messages.size() || twice && messages.size() == 24) {
            return false;
        }
        if (twice) {
            messages.add(messages.get(k));
        } else {
            messages.remove(k);
        }
        return true;
    }

    int collect(int r) {
        test(there(r));
        Replica replica = up(r);
        int least = replica.acks.values().stream().min(Integer::compare).orElseThrow();
        int before = replica.buffer.size();
        replica.buffer.removeIf(numbered -> numbered.number() < least);
        return before - replica.buffer.size();
    }

    int checkpoint(int r) {
        test(there(r));
        Replica replica = up(r);
        try {
            replica.makeCheckpoint();
        } catch (Failure e) {
            throw new IllegalStateException();
        }
        return replica.next;
    }

    boolean power(int r, boolean up) {
        if (!there(r) || replicas.get(r).up == up) {
            return false;
        }
        if (up) {
            replicas.get(r).comeUp();
        } else {
            replicas.get(r).up = false;
        }
        return true;
    }

    boolean fail(int r, int k) {
        if (!there(r) || k < 0 || k > 20) {
            return false;
        }
        replicas.get(r).failingWrite = k == 0 ? 0 : replicas.get(r).writes + k;
        return true;
    }

    int replica(int r, int what) {
        if (!there(r)) {
            return -1;
        }
        Replica replica = replicas.get(r);
        if (!replica.up && (what == 1 || what == 2 || what == 5 || what >= 10)) {
            return -1;
        }
        return switch (what) {
            case 0 -> replica.up ? 1 : 0;
            case 1 -> replica.next;
            case 2 -> replica.buffer.isEmpty() ? replica.next : replica.buffer.get(0).number();
            case 3 -> replica.log.size();
            case 4 -> replica.writes;
            case 5 -> replica.state.alive.size();
            case 6 -> replica.slots[0].next();
            case 7 -> replica.slots[1].next();
            case 8 -> replica.slots[0].whole() ? 1 : 0;
            case 9 -> replica.slots[1].whole() ? 1 : 0;
            default -> !there(what - 10) ? -1 : what - 10 == r ? 0 : replica.acks.get(what - 10);
        };
    }

    int known(int r, int q, int what) {
        test(there(r) && there(q) && 0 <= what && what <= 3);
        Replica replica = up(r);
        TreeSet<Integer> numbers = new TreeSet<>();
        int alive = 0;
        for (Dot dot : replica.state.known) {
            if (dot.r() == q) {
                numbers.add(dot.n());
                alive += replica.state.alive.containsKey(dot) ? 1 : 0;
            }
        }
        int all = 0;
        while (numbers.contains(all + 1)) {
            all++;
        }
        return switch (what) {
            case 0 -> numbers.size();
            case 1 -> all;
            case 2 -> numbers.isEmpty() ? 0 : numbers.last();
            default -> alive;
        };
    }

    int message(int k, int what) {
        if (k == -1) {
            return messages.size();
        }
        if (k < 0 || k >= messages.size()) {
            return -1;
        }
        Message message = messages.get(k);
        return switch (what) {
            case 0 -> message.data() ? 1 : 0;
            case 1 -> message.sender();
            case 2 -> message.receiver();
            case 3 -> message.number();
            case 4 -> message.delta().alive.size();
            case 5 -> message.delta().known.size();
            default -> -1;
        };
    }
}
