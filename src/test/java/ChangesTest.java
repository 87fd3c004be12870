/** Promises 1 to 7: a new object, and what changes it. */
public final class ChangesTest {
    private static final int[] NO_PATHS = {0, -1, 5, 9, 10, 14 * -1, 20, 15, 51, 101, 105, 115, 151, 511, 445, 1111,
        Integer.MAX_VALUE, Integer.MIN_VALUE};
    private static final int[] NO_KINDS = {0, -1, 5, 9, 20, Integer.MAX_VALUE, Integer.MIN_VALUE};

    private final Due due = new Due();

    public static void main(String[] args) {
        ChangesTest test = new ChangesTest();
        test.newObject();
        test.raise();
        test.write();
        test.add();
        test.count();
        test.clear();
        test.erase();
        test.wrongArguments();
        test.downReplica();
        test.sixtyDots();
        test.due.end();
    }

    private void newObject() {
        int[][] asked = {{2, 2}, {3, 3}, {4, 4}, {1, 2}, {0, 2}, {-7, 2}, {5, 4}, {99, 4}, {Integer.MIN_VALUE, 2},
            {Integer.MAX_VALUE, 4}};
        for (int[] row : asked) {
            DottedMaps maps = new DottedMaps(row[0]);
            for (int r = 0; r < 5; r++) {
                int q = r;
                due.is("1 new object of " + row[0] + ", replica " + r, () -> maps.replica(q, 0), r < row[1] ? 1 : -1);
            }
        }
        DottedMaps maps = new DottedMaps(2);
        int[] atFirst = {1, 0, 0, 0, 0, 0, 0, 0, 1, 0, 0, 0, -1};
        for (int what = 0; what < atFirst.length; what++) {
            int w = what;
            due.is("1 new object, replica what " + what, () -> maps.replica(1, w), atFirst[what]);
        }
        due.is("1 new object, no messages", () -> maps.message(-1, 0), 0);
        due.is("1 new object, nothing alive", () -> maps.keys(0, 0), 0);
    }

    private void raise() {
        DottedMaps maps = new DottedMaps(2);
        due.is("2 raise first", () -> maps.raise(1, 12), 1);
        due.is("2 raise again", () -> maps.raise(1, 12), 2);
        due.is("2 raise takes out the flag before", () -> maps.replica(1, 5), 1);
        due.is("2 raise elsewhere", () -> maps.raise(1, 123), 3);
        due.is("2 raise below takes out nothing", () -> maps.replica(1, 5), 2);
        maps.write(1, 12, 0);
        maps.raise(1, 12);
        due.is("2 raise leaves other kinds", () -> maps.sees(1, 12, 2), true);
        due.is("2 raise is of this replica alone", () -> maps.raise(0, 12), 1);
        due.is("2 raise is one write", () -> maps.replica(1, 4), 5);
    }

    private void write() {
        DottedMaps maps = new DottedMaps(2);
        due.is("3 write", () -> maps.write(0, 1, Integer.MIN_VALUE), 1);
        due.is("3 write anew", () -> maps.write(0, 1, Integer.MAX_VALUE), 2);
        due.is("3 write replaces", () -> maps.value(0, 1, 0), Integer.MAX_VALUE);
        due.is("3 write leaves one register", () -> maps.replica(0, 5), 1);
        maps.write(0, 11, 3);
        due.is("3 write at just this path", () -> maps.value(0, 1, 0), Integer.MAX_VALUE);
        maps.raise(0, 1);
        maps.write(0, 1, 5);
        due.is("3 write leaves flags", () -> maps.sees(0, 1, 1), true);
    }

    private void add() {
        DottedMaps maps = new DottedMaps(2);
        due.is("4 add 0", () -> maps.add(0, 2, 0), 1);
        due.is("4 add 9", () -> maps.add(0, 2, 9), 2);
        due.is("4 add 9 again", () -> maps.add(0, 2, 9), 3);
        due.is("4 add takes out the same number alone", () -> maps.replica(0, 5), 2);
        due.is("4 add keeps 0", () -> maps.sees(0, 2, 10), true);
        due.is("4 add keeps 9", () -> maps.sees(0, 2, 19), true);
        due.is("4 add 1 is not there", () -> maps.sees(0, 2, 11), false);
        maps.write(0, 2, 9);
        maps.count(0, 2, 9);
        maps.add(0, 2, 9);
        due.is("4 add leaves registers and counts of its number", () -> maps.replica(0, 5), 4);
        due.refusesArguments("4 add 10", () -> maps.add(0, 2, 10));
        due.refusesArguments("4 add -1", () -> maps.add(0, 2, -1));
        due.refusesArguments("4 add far out", () -> maps.add(0, 2, Integer.MAX_VALUE));
        due.is("4 a refused add changes nothing", () -> maps.replica(0, 4), 6);
    }

    private void count() {
        DottedMaps maps = new DottedMaps(2);
        due.is("5 count", () -> maps.count(0, 3, 4), 1);
        due.is("5 count again", () -> maps.count(0, 3, 4), 2);
        due.is("5 count takes out nothing", () -> maps.sum(0, 3), 8);
        due.is("5 count below 0", () -> maps.count(0, 3, -9), 3);
        due.is("5 count sums", () -> maps.sum(0, 3), -1);
        due.refusesArguments("5 count 0", () -> maps.count(0, 3, 0));
        due.is("5 a refused count changes nothing", () -> maps.known(0, 0, 2), 3);
    }

    private static DottedMaps filled() {
        DottedMaps maps = new DottedMaps(2);
        maps.raise(0, 1);
        maps.write(0, 12, 5);
        maps.add(0, 12, 5);
        maps.add(0, 12, 6);
        maps.count(0, 12, 5);
        maps.count(0, 123, 1);
        maps.count(0, 2, 1);
        return maps;
    }

    private void clear() {
        DottedMaps maps = filled();
        due.is("6 clear nothing", () -> maps.clear(0, 12, 1), 0);
        due.is("6 clear nothing is no change", () -> maps.replica(0, 1), 7);
        due.is("6 clear nothing is no write", () -> maps.replica(0, 4), 8);
        due.is("6 clear one element", () -> maps.clear(0, 12, 15), 1);
        due.is("6 clear of an element leaves the other", () -> maps.sees(0, 12, 16), true);
        due.is("6 clear of an element leaves the register", () -> maps.sees(0, 12, 2), true);
        due.is("6 clear is a change", () -> maps.replica(0, 1), 8);
        due.is("6 clear brings no dot", () -> maps.known(0, 0, 2), 7);
        maps.add(0, 12, 7);
        due.is("6 clear all elements", () -> maps.clear(0, 12, 3), 2);
        due.is("6 clear counts", () -> maps.clear(0, 12, 4), 1);
        due.is("6 clear at just the path", () -> maps.sum(0, 123), 1);
        due.is("6 clear registers", () -> maps.clear(0, 12, 2), 1);
        due.is("6 clear flags", () -> maps.clear(0, 1, 1), 1);
        due.is("6 clear leaves the rest", () -> maps.keys(0, 0), 6);
        for (int kind : NO_KINDS) {
            due.refusesArguments("6 clear kind " + kind, () -> maps.clear(0, 12, kind));
        }
    }

    private void erase() {
        DottedMaps maps = filled();
        due.is("7 erase nothing", () -> maps.erase(0, 44), 0);
        due.is("7 erase a leaf's namesake", () -> maps.erase(0, 23), 0);
        due.is("7 erase nothing is no change", () -> maps.replica(0, 1), 7);
        due.is("7 erase at a path and below", () -> maps.erase(0, 12), 5);
        due.is("7 erase leaves what is above", () -> maps.sees(0, 1, 1), true);
        due.is("7 erase leaves what is beside", () -> maps.sees(0, 2, 4), true);
        due.is("7 erase is one change", () -> maps.replica(0, 1), 8);
        due.is("7 erase of three digits", () -> maps.count(0, 123, 2) + maps.erase(0, 123), 9);
        due.is("7 erase all", () -> maps.erase(0, 0), 2);
        due.is("7 erase leaves nothing", () -> maps.replica(0, 5), 0);
        due.is("7 erase of nothing at all", () -> maps.erase(0, 0), 0);
        due.is("7 what was taken out stays known", () -> maps.known(0, 0, 0), 8);
        DottedMaps deep = filled();
        due.is("7 erase at one digit", () -> deep.erase(0, 1), 6);
        DottedMaps all = filled();
        due.is("7 erase all of every length", () -> all.erase(0, 0), 7);
    }

    private void wrongArguments() {
        DottedMaps maps = new DottedMaps(3);
        for (int path : NO_PATHS) {
            due.refusesArguments("2 raise at " + path, () -> maps.raise(0, path));
            due.refusesArguments("3 write at " + path, () -> maps.write(0, path, 1));
            due.refusesArguments("4 add at " + path, () -> maps.add(0, path, 1));
            due.refusesArguments("5 count at " + path, () -> maps.count(0, path, 1));
            due.refusesArguments("6 clear at " + path, () -> maps.clear(0, path, 1));
            due.is("7 erase at " + path, () -> maps.erase(0, path), path == 0 ? 0 : Due.ILLEGAL_ARGUMENT);
        }
        for (int r : new int[] {-1, 3, 4, Integer.MAX_VALUE, Integer.MIN_VALUE}) {
            due.refusesArguments("2 raise by " + r, () -> maps.raise(r, 1));
            due.refusesArguments("3 write by " + r, () -> maps.write(r, 1, 1));
            due.refusesArguments("4 add by " + r, () -> maps.add(r, 1, 1));
            due.refusesArguments("5 count by " + r, () -> maps.count(r, 1, 1));
            due.refusesArguments("6 clear by " + r, () -> maps.clear(r, 1, 1));
            due.refusesArguments("7 erase by " + r, () -> maps.erase(r, 1));
        }
        due.is("2 refused calls change nothing", () -> maps.replica(0, 4), 0);
    }

    private void downReplica() {
        DottedMaps maps = filled();
        maps.power(0, false);
        due.refusesState("2 raise when down", () -> maps.raise(0, 1));
        due.refusesState("3 write when down", () -> maps.write(0, 1, 1));
        due.refusesState("4 add when down", () -> maps.add(0, 1, 1));
        due.refusesState("5 count when down", () -> maps.count(0, 1, 1));
        due.refusesState("6 clear when down", () -> maps.clear(0, 1, 1));
        due.refusesState("7 erase when down", () -> maps.erase(0, 1));
        due.refusesArguments("2 raise: arguments before being up", () -> maps.raise(0, 0));
        due.refusesArguments("3 write: arguments before being up", () -> maps.write(0, 5, 1));
        due.refusesArguments("4 add: arguments before being up", () -> maps.add(0, 1, 10));
        due.refusesArguments("5 count: arguments before being up", () -> maps.count(0, 1, 0));
        due.refusesArguments("6 clear: arguments before being up", () -> maps.clear(0, 1, 5));
        due.refusesArguments("7 erase: arguments before being up", () -> maps.erase(0, 5));
        due.is("2 the other is up", () -> maps.raise(1, 1), 1);
    }

    private void sixtyDots() {
        DottedMaps maps = new DottedMaps(2);
        for (int n = 1; n <= 60; n++) {
            int wanted = n;
            due.is("5 dot " + n, () -> maps.count(0, 1, 1), wanted);
        }
        int writes = maps.replica(0, 4);
        due.refusesState("2 raise above 60", () -> maps.raise(0, 1));
        due.refusesState("3 write above 60", () -> maps.write(0, 1, 1));
        due.refusesState("4 add above 60", () -> maps.add(0, 1, 1));
        due.refusesState("5 count above 60", () -> maps.count(0, 1, 1));
        due.refusesArguments("5 count above 60 with wrong arguments", () -> maps.count(0, 1, 0));
        due.is("2 what is refused above 60 writes nothing", () -> maps.replica(0, 4), writes);
        due.is("2 and leaves the replica up", () -> maps.replica(0, 0), 1);
        due.is("9 sum of sixty", () -> maps.sum(0, 1), 60);
        due.is("6 clear needs no dot", () -> maps.clear(0, 1, 4), 60);
        due.refusesState("2 taken out dots are not given again", () -> maps.raise(0, 1));
        due.is("2 the other replica has its own dots", () -> maps.raise(1, 1), 1);
    }
}
