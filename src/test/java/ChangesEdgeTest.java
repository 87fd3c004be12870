import java.util.ArrayList;
import java.util.List;
import java.util.function.BiFunction;

/** Promises 1 to 7 at their edges: the first and the last dot, what is taken out and what is left, none and all. */
public final class ChangesEdgeTest {
    private static final String[] MAKERS = {"2 raise", "3 write", "4 add", "5 count"};

    private final Due due = new Due();
    private final List<Integer> paths = new ArrayList<>();

    public static void main(String[] args) {
        ChangesEdgeTest test = new ChangesEdgeTest();
        test.allPaths();
        test.newObject();
        test.sixtyDots();
        test.dotsAreNotGivenAgain();
        test.dotsOfOthers();
        test.dotsAfterFailures();
        test.lastDotFails();
        test.takenOutAtJustThisPath();
        test.takenOutOfTheKind();
        test.takenOutOfTheNumber();
        test.takenOutIsWhatIsSeen();
        test.takenOutIsWhatIsAlive();
        test.clearTellsHowMany();
        test.eraseBelow();
        test.eraseAll();
        test.fullReplica();
        test.due.end();
    }

    private void allPaths() {
        for (int path = 1; path <= 444; path++) {
            if (String.valueOf(path).matches("[1-4]{1,3}")) {
                paths.add(path);
            }
        }
        due.is("2 there are 84 paths", paths::size, 84);
    }

    /** Makes a new entry of a kind (1 FLAG .. 4 COUNT), with a number for those that have one. */
    private static int make(DottedMaps maps, int kind, int r, int path, int number) {
        switch (kind) {
            case 1:
                return maps.raise(r, path);
            case 2:
                return maps.write(r, path, number);
            case 3:
                return maps.add(r, path, number);
            default:
                return maps.count(r, path, number);
        }
    }

    /** "The STATE of a replica is a delta (empty at first)": all up, all empty. */
    private void newObject() {
        for (int many = 2; many <= 4; many++) {
            for (int r = 0; r < many; r++) {
                DottedMaps maps = new DottedMaps(many);
                int by = r;
                due.is("1 up", () -> maps.replica(by, 0), 1);
                due.is("1 NEXT", () -> maps.replica(by, 1), 0);
                due.is("1 the first of the buffer", () -> maps.replica(by, 2), 0);
                due.is("1 the log is empty", () -> maps.replica(by, 3), 0);
                due.is("1 no writes", () -> maps.replica(by, 4), 0);
                due.is("1 nothing alive", () -> maps.replica(by, 5), 0);
                due.is("1 NEXT of slot 0", () -> maps.replica(by, 6), 0);
                due.is("1 NEXT of slot 1", () -> maps.replica(by, 7), 0);
                due.is("1 slot 0 is whole", () -> maps.replica(by, 8), 1);
                due.is("1 slot 1 is not whole", () -> maps.replica(by, 9), 0);
                for (int q = 0; q < many; q++) {
                    int of = q;
                    due.is("1 ack for " + q, () -> maps.replica(by, 10 + of), 0);
                    due.is("1 no dot known of " + q, () -> maps.known(by, of, 0), 0);
                }
                due.is("1 no messages", () -> maps.message(-1, 0), 0);
                due.is("1 no failure is set", () -> maps.checkpoint(by), 0);
            }
        }
    }

    /** "A DOT is a replica r and a number n, 1 .. 60"; "IllegalStateException also when that would be above 60". */
    private void sixtyDots() {
        for (int kind = 1; kind <= 4; kind++) {
            for (int r : new int[] {0, 3}) {
                DottedMaps maps = new DottedMaps(4);
                String name = MAKERS[kind - 1] + " by " + r;
                int of = kind;
                for (int n = 1; n <= 60; n++) {
                    due.is(name + ", dot " + n, () -> make(maps, of, r, 4, 3), n);
                }
                due.refusesState(name + ", dot 61", () -> make(maps, of, r, 4, 3));
                due.refusesState(name + ", dot 61 at another path", () -> make(maps, of, r, 3, 4));
                due.is(name + ", greatest known", () -> maps.known(r, r, 2), 60);
                due.is(name + ", alive", () -> maps.replica(r, 5), kind == 4 ? 60 : 1);
                due.is(name + ", NEXT", () -> maps.replica(r, 1), 60);
                due.is(name + ", seen", () -> maps.sees(r, 4, of), true);
                due.is(name + ", sum", () -> maps.sum(r, 4), kind == 4 ? 180 : 0);
                due.is(name + ", value", () -> maps.value(r, 4, 0), kind == 2 ? 3 : Due.NO_SUCH_ELEMENT);
                due.is(name + ", keys", () -> maps.keys(r, 0), 16);
                due.is(name + ", another replica has its own", () -> make(maps, of, 1, 4, 3), 1);
            }
        }
    }

    /** "1 more than the greatest number of its own dots known to its state": also when they are alive no more. */
    private void dotsAreNotGivenAgain() {
        for (int kind = 1; kind <= 4; kind++) {
            DottedMaps maps = new DottedMaps(2);
            String name = MAKERS[kind - 1];
            int of = kind;
            make(maps, kind, 0, 1, 3);
            maps.clear(0, 1, kind);
            due.is(name + " after a clear", () -> make(maps, of, 0, 1, 3), 2);
            maps.erase(0, 0);
            due.is(name + " after an erase of all", () -> make(maps, of, 0, 1, 3), 3);
            maps.power(0, false);
            maps.power(0, true);
            due.is(name + " after coming up from the log", () -> make(maps, of, 0, 1, 3), 4);
            maps.erase(0, 0);
            maps.checkpoint(0);
            maps.power(0, false);
            maps.power(0, true);
            due.is(name + " after coming up from a slot", () -> make(maps, of, 0, 1, 3), 5);
        }
    }

    /** "of its own dots": those of others do not count. */
    private void dotsOfOthers() {
        DottedMaps maps = new DottedMaps(3);
        for (int i = 0; i < 5; i++) {
            maps.count(1, 1, 1);
        }
        Worlds.bring(maps, 1, 0);
        due.is("2 five dots of another are known", () -> maps.known(0, 1, 2), 5);
        due.is("2 raise has its own first", () -> maps.raise(0, 1), 1);
        Worlds.bring(maps, 0, 2);
        due.is("3 write has its own first", () -> maps.write(2, 1, 1), 1);
        due.is("5 count goes on with its own", () -> maps.count(1, 1, 1), 6);
    }

    /** A dot that was not taken in is not known, and is given to the next entry. */
    private void dotsAfterFailures() {
        for (int kind = 1; kind <= 4; kind++) {
            for (int next = 1; next <= 4; next++) {
                DottedMaps maps = new DottedMaps(2);
                String name = MAKERS[kind - 1] + " that fails, then " + MAKERS[next - 1];
                int of = kind;
                int then = next;
                maps.fail(0, 1);
                due.refusesState(name, () -> make(maps, of, 0, 1, 5));
                maps.power(0, true);
                due.is(name + ": dot", () -> make(maps, then, 0, 23, 6), 1);
                due.is(name + ": alive", () -> maps.replica(0, 5), 1);
                due.is(name + ": nothing at the first path", () -> maps.keys(0, 0), 4);
                due.is(name + ": kind", () -> maps.sees(0, 23, then), true);
                due.is(name + ": sum", () -> maps.sum(0, 23), next == 4 ? 6 : 0);
                due.is(name + ": value", () -> maps.value(0, 23, 0), next == 2 ? 6 : Due.NO_SUCH_ELEMENT);
                due.is(name + ": element", () -> maps.sees(0, 23, 16), next == 3);
            }
        }
    }

    /** The 60th dot is left when its taking in fails. */
    private void lastDotFails() {
        DottedMaps maps = new DottedMaps(2);
        for (int n = 1; n <= 59; n++) {
            maps.count(0, 1, 1);
        }
        maps.fail(0, 1);
        due.refusesState("5 the 60th fails", () -> maps.count(0, 1, 1));
        maps.power(0, true);
        due.is("5 and is left", () -> maps.raise(0, 2), 60);
        due.refusesState("5 the 61st is not", () -> maps.raise(0, 2));
    }

    /** "alive at just this path": not above it, below it or beside it. */
    private void takenOutAtJustThisPath() {
        for (int kind = 1; kind <= 4; kind++) {
            for (int other : new int[] {1, 12, 123, 13, 2, 21, 122, 124, 112, 4}) {
                DottedMaps maps = new DottedMaps(2);
                int of = kind;
                make(maps, kind, 0, other, 3);
                make(maps, kind, 0, 12, 3);
                String name = MAKERS[kind - 1] + " at 12 after one at " + other;
                due.is(name + ": alive", () -> maps.replica(0, 5), other == 12 && kind != 4 ? 1 : 2);
                due.is(name + ": there", () -> maps.sees(0, other, of), true);
                due.is("6 clear at 12, leaving " + other, () -> maps.clear(0, 12, of), other == 12 && of == 4 ? 2 : 1);
                due.is("8 sees at " + other + " after a clear at 12", () -> maps.sees(0, other, of), other != 12);
            }
        }
    }

    /** "takes out the FLAGs", "the REGISTERs", "the ELEMENTs", "nothing": no other kind at the path. */
    private void takenOutOfTheKind() {
        for (int kind = 1; kind <= 4; kind++) {
            for (int other = 1; other <= 4; other++) {
                DottedMaps maps = new DottedMaps(2);
                int seen = other;
                int of = kind;
                make(maps, other, 0, 12, 3);
                make(maps, kind, 0, 12, 3);
                String name = MAKERS[kind - 1] + " after " + MAKERS[other - 1];
                due.is(name + ": alive", () -> maps.replica(0, 5), kind == other && kind != 4 ? 1 : 2);
                due.is(name + ": still seen", () -> maps.sees(0, 12, seen), true);
                due.is(name + ": known", () -> maps.known(0, 0, 0), 2);
                due.is("6 clear of " + kind + ", leaving " + other, () -> maps.clear(0, 12, of),
                    kind == 4 && other == 4 ? 2 : 1);
                due.is("8 sees " + other + " after a clear of " + kind, () -> maps.sees(0, 12, seen), kind != other);
            }
        }
    }

    /** "the ELEMENTs alive at just this path with this number"; registers of any number; a flag has the number 0. */
    private void takenOutOfTheNumber() {
        for (int one = 0; one <= 9; one++) {
            for (int two = 0; two <= 9; two++) {
                DottedMaps maps = new DottedMaps(2);
                maps.add(0, 3, one);
                maps.add(0, 3, two);
                int kind = 10 + one;
                due.is("4 add " + two + " after " + one, () -> maps.replica(0, 5), one == two ? 1 : 2);
                due.is("6 clear of element " + one + " beside " + two, () -> maps.clear(0, 3, kind), 1);
                due.is("6 left of " + two + " after " + one, () -> maps.replica(0, 5), one == two ? 0 : 1);
            }
        }
        DottedMaps maps = new DottedMaps(2);
        maps.raise(0, 3);
        maps.write(0, 3, 0);
        maps.add(0, 3, 0);
        maps.count(0, 3, 7);
        maps.add(0, 3, 7);
        due.is("6 clear of element 0 leaves the flag and the register", () -> maps.clear(0, 3, 10), 1);
        due.is("6 clear of element 7 leaves the count", () -> maps.clear(0, 3, 17), 1);
        due.is("6 clear of element 7 again", () -> maps.clear(0, 3, 17), 0);
        due.is("6 clear of all elements when none is left", () -> maps.clear(0, 3, 3), 0);
        due.is("6 what is left", () -> maps.replica(0, 5), 3);
    }

    /** "of what is alive in its state": what has not come to the replica stays. */
    private void takenOutIsWhatIsSeen() {
        for (int kind = 1; kind <= 3; kind++) {
            DottedMaps maps = new DottedMaps(3);
            int of = kind;
            make(maps, kind, 1, 2, 3);
            make(maps, kind, 2, 2, 3);
            Worlds.bring(maps, 1, 0);
            due.is(MAKERS[kind - 1] + " takes out what came", () -> make(maps, of, 0, 2, 3), 1);
            due.is(MAKERS[kind - 1] + ": one is alive", () -> maps.replica(0, 5), 1);
            Worlds.bring(maps, 2, 0);
            due.is(MAKERS[kind - 1] + ": what comes later is beside it", () -> maps.replica(0, 5), 2);
            due.is("6 clear takes out both", () -> maps.clear(0, 2, of), 2);
            due.is("8 the other still sees its own", () -> maps.sees(2, 2, of), true);
            due.is("2 and so does the one that is replaced", () -> maps.sees(1, 2, of), true);
        }
    }

    /** What is known but alive no more is not taken out once more: the delta does not have its dot. */
    private void takenOutIsWhatIsAlive() {
        for (int kind = 1; kind <= 4; kind++) {
            DottedMaps maps = new DottedMaps(2);
            String name = MAKERS[kind - 1];
            make(maps, kind, 0, 2, 3);
            maps.clear(0, 2, kind);
            Worlds.bring(maps, 0, 1);
            make(maps, kind, 0, 2, 3);
            maps.gossip(0, 1);
            due.is(name + " after a clear knows its own dot alone", () -> maps.message(0, 5), 1);
            maps.deliver(0);
            maps.deliver(0);
            make(maps, kind, 0, 2, 3);
            maps.gossip(0, 1);
            due.is(name + " again knows what it takes out too", () -> maps.message(0, 5), kind == 4 ? 1 : 2);
            maps.deliver(0);
            maps.deliver(0);
            maps.clear(0, 2, kind);
            maps.gossip(0, 1);
            due.is("6 clear knows what it takes out alone", () -> maps.message(0, 5), kind == 4 ? 2 : 1);
            due.is("6 clear has nothing alive", () -> maps.message(0, 4), 0);
            maps.deliver(0);
            maps.deliver(0);
            make(maps, kind, 0, 2, 3);
            Worlds.bring(maps, 0, 1);
            maps.erase(0, 0);
            maps.gossip(0, 1);
            due.is("7 erase knows what it takes out alone", () -> maps.message(0, 5), 1);
        }
    }

    /** "Answers how many entries". */
    private void clearTellsHowMany() {
        for (int many : new int[] {0, 1, 2, 59, 60}) {
            DottedMaps maps = new DottedMaps(2);
            for (int i = 0; i < many; i++) {
                maps.count(0, 144, 1);
            }
            due.is("6 clear of " + many, () -> maps.clear(0, 144, 4), many);
            due.is("6 NEXT after a clear of " + many, () -> maps.replica(0, 1), many == 0 ? 0 : many + 1);
            due.is("6 clear again", () -> maps.clear(0, 144, 4), 0);
            due.is("6 known after a clear of " + many, () -> maps.known(0, 0, 0), many);
        }
    }

    /** "all that is alive at a path and below it": for each two of the 84 paths. */
    private void eraseBelow() {
        for (int path : paths) {
            for (int above : paths) {
                DottedMaps maps = new DottedMaps(2);
                maps.raise(0, path);
                boolean under = String.valueOf(path).startsWith(String.valueOf(above));
                due.is("7 erase at " + above + " of " + path, () -> maps.erase(0, above), under ? 1 : 0);
                due.is("7 left of " + path, () -> maps.sees(0, path, 1), !under);
            }
            DottedMaps maps = new DottedMaps(2);
            maps.count(0, path, 1);
            due.is("7 erase of all, of " + path, () -> maps.erase(0, 0), 1);
        }
    }

    /** "for path 0 all", of every kind. */
    private void eraseAll() {
        BiFunction<Integer, Integer, DottedMaps> filled = (path, below) -> {
            DottedMaps maps = new DottedMaps(2);
            for (int kind = 1; kind <= 4; kind++) {
                make(maps, kind, 0, path, 3);
                make(maps, kind, 0, below, 3);
            }
            return maps;
        };
        due.is("7 erase of all kinds", () -> filled.apply(1, 444).erase(0, 0), 8);
        due.is("7 erase of all kinds below", () -> filled.apply(1, 134).erase(0, 1), 8);
        due.is("7 erase of all kinds at", () -> filled.apply(1, 134).erase(0, 13), 4);
        DottedMaps maps = filled.apply(2, 33);
        maps.erase(0, 0);
        due.is("7 all are known still", () -> maps.known(0, 0, 0), 8);
        due.is("7 none is alive", () -> maps.known(0, 0, 3), 0);
        due.is("7 it was one change", () -> maps.replica(0, 1), 9);
    }

    /** All dots of all four replicas alive at one of them, and taken out at once. */
    private void fullReplica() {
        DottedMaps maps = new DottedMaps(4);
        for (int r = 0; r < 4; r++) {
            for (int n = 1; n <= 60; n++) {
                maps.count(r, 4, 1);
            }
        }
        for (int r = 1; r < 4; r++) {
            int from = r;
            due.is("12 the state of sixty", () -> maps.gossip(from, 0), 2);
            due.is("13 the state of sixty comes", () -> maps.deliver(0), 1);
            maps.deliver(0);
        }
        due.is("19 all are alive", () -> maps.replica(0, 5), 240);
        due.is("9 sum of all", () -> maps.sum(0, 4), 240);
        due.is("20 the greatest dot of the last replica", () -> maps.known(0, 3, 1), 60);
        due.is("7 erase of all", () -> maps.erase(0, 4), 240);
        due.is("12 gossip of what was taken out", () -> maps.gossip(0, 3), 2);
        due.is("21 all are known to it", () -> maps.message(0, 5), 240);
        due.is("13 all are taken out elsewhere", () -> maps.deliver(0), 1);
        due.is("19 none is alive there", () -> maps.replica(3, 5), 0);
        due.refusesState("5 and no dot is left there", () -> maps.count(3, 4, 1));
    }
}
