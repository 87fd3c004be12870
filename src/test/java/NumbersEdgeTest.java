import java.util.List;
import java.util.function.BiFunction;

/**
 * Which numbers a replica, a path, a kind and the others may have: the last that is as said and the
 * first that is not, on both sides, for every method that has one.
 */
public final class NumbersEdgeTest {
    private static final int LEAST = Integer.MIN_VALUE;
    private static final int MOST = Integer.MAX_VALUE;

    /** A call with the number at hand in one place, its answer on a new object, and how it refuses. */
    private record Call(String name, BiFunction<DottedMaps, Integer, Object> of, Object answer, Object refusal) { }

    private static final List<Call> BY_REPLICA = List.of(
        thrower("2 raise", (m, r) -> m.raise(r, 1), 1),
        thrower("3 write", (m, r) -> m.write(r, 1, 1), 1),
        thrower("4 add", (m, r) -> m.add(r, 1, 1), 1),
        thrower("5 count", (m, r) -> m.count(r, 1, 1), 1),
        thrower("6 clear", (m, r) -> m.clear(r, 1, 1), 0),
        thrower("7 erase", (m, r) -> m.erase(r, 1), 0),
        thrower("8 sees", (m, r) -> m.sees(r, 1, 1), false),
        thrower("9 sum", (m, r) -> m.sum(r, 1), 0),
        thrower("10 value", (m, r) -> m.value(r, 1, 0), Due.NO_SUCH_ELEMENT),
        thrower("11 keys", (m, r) -> m.keys(r, 1), 0),
        thrower("12 gossip from", (m, r) -> m.gossip(r, r == 0 ? 1 : 0), 0),
        thrower("12 gossip to", (m, q) -> m.gossip(q == 0 ? 1 : 0, q), 0),
        thrower("15 collect", (m, r) -> m.collect(r), 0),
        thrower("16 checkpoint", (m, r) -> m.checkpoint(r), 0),
        new Call("17 power", (m, r) -> m.power(r, false), true, false),
        new Call("17 power on", (m, r) -> m.power(r, true), false, false),
        new Call("18 fail", (m, r) -> m.fail(r, 1), true, false),
        new Call("19 replica", (m, r) -> m.replica(r, 0), 1, -1),
        thrower("20 known to", (m, r) -> m.known(r, 0, 0), 0),
        thrower("20 known of", (m, q) -> m.known(0, q, 0), 0));

    private final Due due = new Due();

    public static void main(String[] args) {
        NumbersEdgeTest test = new NumbersEdgeTest();
        test.replicas();
        test.anotherReplica();
        test.paths();
        test.kinds();
        test.elements();
        test.counts();
        test.registers();
        test.places();
        test.failures();
        test.whats();
        test.due.end();
    }

    private static Call thrower(String name, BiFunction<DottedMaps, Integer, Object> of, Object answer) {
        return new Call(name, of, answer, Due.ILLEGAL_ARGUMENT);
    }

    /**
     * "So many replicas: 2 to 4; other numbers count as the nearest of these"; "REPLICAS are 0 .. the number
     * of them less 1".
     */
    private void replicas() {
        int[][] asked = {{LEAST, 2}, {-1, 2}, {0, 2}, {1, 2}, {2, 2}, {3, 3}, {4, 4}, {5, 4}, {6, 4}, {MOST, 4}};
        for (int[] row : asked) {
            int many = row[1];
            for (int r : new int[] {LEAST, -many, -1, 0, 1, many - 1, many, many + 1, 10, 256, 65536, MOST}) {
                boolean there = r >= 0 && r < many;
                for (Call call : BY_REPLICA) {
                    due.is(call.name + " by replica " + r + " of " + row[0],
                        () -> call.of.apply(new DottedMaps(row[0]), r), there ? call.answer : call.refusal);
                }
                due.is("1 replica " + r + " of " + row[0], () -> new DottedMaps(row[0]).replica(r, 0), there ? 1 : -1);
            }
            for (int q = 0; q < 6; q++) {
                int what = 10 + q;
                due.is("19 ack for " + q + " of " + row[0], () -> new DottedMaps(row[0]).replica(0, what),
                    q < many ? 0 : -1);
            }
        }
    }

    /** "to replica q, another one". */
    private void anotherReplica() {
        for (int r = 0; r < 4; r++) {
            for (int q = 0; q < 4; q++) {
                int from = r;
                int to = q;
                DottedMaps maps = new DottedMaps(4);
                maps.raise(r, 1);
                due.is("12 gossip " + r + " " + q, () -> maps.gossip(from, to), r == q ? Due.ILLEGAL_ARGUMENT : 1);
                due.is("12 gossip " + r + " " + q + " sends", () -> maps.message(-1, 0), r == q ? 0 : 1);
            }
        }
    }

    /** "A PATH has one, two or three digits 1 .. 4 (as a decimal number)"; 0 is one for erase and keys alone. */
    private void paths() {
        for (int path = -1500; path <= 5500; path++) {
            pathIs(path);
        }
        for (int path : new int[] {LEAST, LEAST + 1, -65536, 11111, 44444, 65536, 65537, 65547, 1111111111, 1444444444,
            MOST - 1, MOST}) {
            pathIs(path);
        }
    }

    private void pathIs(int path) {
        boolean fits = String.valueOf(path).matches("[1-4]{1,3}");
        DottedMaps maps = new DottedMaps(2);
        Object no = Due.ILLEGAL_ARGUMENT;
        String at = " at " + path;
        due.is("2 raise" + at, () -> maps.raise(0, path), fits ? 1 : no);
        due.is("3 write" + at, () -> maps.write(0, path, 5), fits ? 2 : no);
        due.is("4 add" + at, () -> maps.add(0, path, 6), fits ? 3 : no);
        due.is("5 count" + at, () -> maps.count(0, path, 7), fits ? 4 : no);
        due.is("8 sees" + at, () -> maps.sees(0, path, 16), fits ? true : no);
        due.is("9 sum" + at, () -> maps.sum(0, path), fits ? 7 : no);
        due.is("10 value" + at, () -> maps.value(0, path, 0), fits ? 5 : no);
        due.is("11 keys" + at, () -> maps.keys(0, path), fits || path == 0 ? 0 : no);
        due.is("6 clear" + at, () -> maps.clear(0, path, 1), fits ? 1 : no);
        due.is("7 erase" + at, () -> maps.erase(0, path), fits ? 3 : path == 0 ? 0 : no);
        due.is("2 writes" + at, () -> maps.replica(0, 4), fits ? 6 : 0);
    }

    /** "1 .. 4 all of this kind; 10 + e, e = 0 .. 9, the ELEMENTs with this number". */
    private void kinds() {
        for (int kind = -20; kind <= 40; kind++) {
            kindIs(kind);
        }
        for (int kind : new int[] {LEAST, LEAST + 1, 256, 257, 65537, MOST - 1, MOST}) {
            kindIs(kind);
        }
    }

    private void kindIs(int kind) {
        DottedMaps maps = new DottedMaps(2);
        for (int e = 0; e <= 9; e++) {
            maps.add(0, 12, e);
        }
        maps.raise(0, 12);
        maps.write(0, 12, 4);
        maps.count(0, 12, 5);
        maps.count(0, 12, 6);
        boolean fits = kind >= 1 && kind <= 4 || kind >= 10 && kind <= 19;
        Object all = kind == 3 ? 10 : kind == 4 ? 2 : 1;
        due.is("8 sees kind " + kind, () -> maps.sees(0, 12, kind), fits ? true : Due.ILLEGAL_ARGUMENT);
        due.is("6 clear kind " + kind, () -> maps.clear(0, 12, kind), fits ? all : Due.ILLEGAL_ARGUMENT);
        due.is("6 left by clear of kind " + kind, () -> maps.replica(0, 5), 14 - (fits ? (Integer) all : 0));
        due.is("8 sees kind " + kind + " after that", () -> maps.sees(0, 12, kind), fits ? false : Due.ILLEGAL_ARGUMENT);
        due.is("6 clear of kind " + kind + " is a change or none", () -> maps.replica(0, 1), fits ? 15 : 14);
    }

    /** "element e (0 .. 9)". */
    private void elements() {
        for (int e : new int[] {LEAST, -10, -1, 0, 1, 8, 9, 10, 11, 256, 65536, MOST}) {
            boolean fits = e >= 0 && e <= 9;
            DottedMaps maps = new DottedMaps(2);
            due.is("4 add " + e, () -> maps.add(1, 3, e), fits ? 1 : Due.ILLEGAL_ARGUMENT);
            for (int seen = 0; seen <= 9; seen++) {
                int kind = 10 + seen;
                due.is("4 element " + seen + " after add " + e, () -> maps.sees(1, 3, kind), seen == e);
            }
            due.is("4 add " + e + " is a change or none", () -> maps.replica(1, 1), fits ? 1 : 0);
        }
    }

    /** "counts n, not 0". */
    private void counts() {
        for (int n : new int[] {LEAST, LEAST + 1, -1, 0, 1, MOST - 1, MOST}) {
            DottedMaps maps = new DottedMaps(2);
            due.is("5 count " + n, () -> maps.count(1, 3, n), n != 0 ? 1 : Due.ILLEGAL_ARGUMENT);
            due.is("9 sum after count " + n, () -> maps.sum(1, 3), n);
            due.is("5 count " + n + " is a change or none", () -> maps.replica(1, 1), n != 0 ? 1 : 0);
        }
    }

    /** "a number, an int": a register has any, a flag has 0. */
    private void registers() {
        for (int v : new int[] {LEAST, LEAST + 1, -1, 0, 1, MOST - 1, MOST}) {
            DottedMaps maps = new DottedMaps(2);
            due.is("3 write " + v, () -> maps.write(1, 3, v), 1);
            due.is("10 value after write " + v, () -> maps.value(1, 3, 0), v);
            due.is("10 value behind write " + v, () -> maps.value(1, 3, 1), Due.NO_SUCH_ELEMENT);
        }
    }

    /** "message k (from 0)": with none, one and 24 under way. */
    private void places() {
        for (int many : new int[] {0, 1, 2, 23, 24}) {
            for (int k : new int[] {LEAST, -2, -1, 0, 1, 22, 23, 24, 25, MOST}) {
                boolean there = k >= 0 && k < many;
                String of = " " + k + " of " + many;
                due.is("13 deliver" + of, () -> under(many).deliver(k), there ? 1 : Due.ILLEGAL_ARGUMENT);
                due.is("14 lose" + of, () -> under(many).lose(k, false), there);
                due.is("14 lose, twice," + of, () -> under(many).lose(k, true), there && many < 24);
                due.is("21 message" + of, () -> under(many).message(k, 3), there ? 1 : k == -1 ? many : -1);
            }
        }
    }

    private static DottedMaps under(int many) {
        DottedMaps maps = new DottedMaps(2);
        maps.raise(0, 1);
        for (int i = 0; i < many; i++) {
            maps.gossip(0, 1);
        }
        return maps;
    }

    /** "the k-th of its writes from now on (1 .. 20) ..; k = 0: none is". */
    private void failures() {
        for (int k : new int[] {LEAST, -20, -1, 0, 1, 2, 19, 20, 21, 22, 256, 65536, MOST}) {
            boolean fits = k >= 0 && k <= 20;
            DottedMaps maps = new DottedMaps(2);
            due.is("18 fail " + k, () -> maps.fail(1, k), fits);
            for (int i = 1; i <= 25; i++) {
                boolean fails = fits && k > 0 && i >= k;
                due.is("18 write " + i + " after fail " + k, () -> maps.checkpoint(1), fails ? Due.ILLEGAL_STATE : 0);
            }
            due.is("18 writes after fail " + k, () -> maps.replica(1, 4), fits && k > 0 ? k : 25);
        }
    }

    /** What a replica, its dots and a message are asked: "NONE when what is none of these". */
    private void whats() {
        for (int what : new int[] {LEAST, LEAST + 10, -11, -10, -1, 14, 15, 19, 20, 256, 65536, MOST}) {
            due.is("19 replica, what " + what, () -> new DottedMaps(4).replica(0, what), -1);
            due.refusesArguments("20 known, what " + what, () -> new DottedMaps(4).known(0, 0, what));
            due.is("21 message, what " + what, () -> under(1).message(0, what), -1);
        }
        int[] first = {1, 0, 0, 0, 0, 0, 0, 0, 1, 0, 0, 0, 0, 0, -1};
        for (int what = 0; what < first.length; what++) {
            int w = what;
            due.is("19 replica, what " + what, () -> new DottedMaps(4).replica(3, w), first[what]);
            due.is("20 known, what " + what, () -> new DottedMaps(4).known(3, 3, w), what < 4 ? 0 : Due.ILLEGAL_ARGUMENT);
        }
        int[] data = {1, 0, 1, 1, 1, 1, -1};
        for (int what = 0; what < data.length; what++) {
            int w = what;
            due.is("21 message, what " + what, () -> under(1).message(0, w), data[what]);
        }
    }
}
