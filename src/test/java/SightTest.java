/** Promises 8 to 11: what a replica sees. */
public final class SightTest {
    private final Due due = new Due();

    public static void main(String[] args) {
        SightTest test = new SightTest();
        test.sees();
        test.sum();
        test.value();
        test.keys();
        test.wrongArguments();
        test.downReplica();
        test.due.end();
    }

    private void sees() {
        DottedMaps maps = new DottedMaps(2);
        maps.raise(0, 1);
        maps.write(0, 12, 3);
        maps.add(0, 123, 3);
        maps.count(0, 4, 3);
        int[] paths = {1, 12, 123, 4};
        for (int i = 0; i < paths.length; i++) {
            for (int kind = 1; kind <= 4; kind++) {
                int path = paths[i];
                int k = kind;
                due.is("8 sees " + kind + " at " + path, () -> maps.sees(0, path, k), kind == i + 1);
            }
        }
        due.is("8 sees element 3", () -> maps.sees(0, 123, 13), true);
        due.is("8 sees element 4", () -> maps.sees(0, 123, 14), false);
        due.is("8 sees no element in a register", () -> maps.sees(0, 12, 13), false);
        due.is("8 sees no element in a count", () -> maps.sees(0, 4, 13), false);
        due.is("8 sees no element 0 in a flag", () -> maps.sees(0, 1, 10), false);
        due.is("8 sees nothing of another replica", () -> maps.sees(1, 1, 1), false);
        due.is("8 sees changes nothing", () -> maps.replica(0, 4), 4);
    }

    private void sum() {
        DottedMaps maps = new DottedMaps(2);
        due.is("9 sum of none", () -> maps.sum(0, 1), 0);
        maps.count(0, 1, Integer.MAX_VALUE);
        maps.count(0, 1, 2);
        maps.count(0, 11, 50);
        maps.write(0, 1, 70);
        maps.add(0, 1, 7);
        due.is("9 sum wraps", () -> maps.sum(0, 1), Integer.MIN_VALUE + 1);
        due.is("9 sum at just a path", () -> maps.sum(0, 11), 50);
        maps.count(1, 11, -60);
        Worlds.bring(maps, 0, 1);
        due.is("9 sum of both replicas", () -> maps.sum(1, 11), -10);
        due.is("9 sum of one", () -> maps.sum(0, 11), 50);
    }

    private void value() {
        DottedMaps maps = new DottedMaps(4);
        due.is("10 value of none", () -> maps.value(0, 1, 0), Due.NO_SUCH_ELEMENT);
        maps.write(0, 1, 5);
        maps.write(1, 1, Integer.MIN_VALUE);
        maps.write(2, 1, 5);
        maps.write(3, 1, Integer.MAX_VALUE);
        maps.write(0, 11, 6);
        maps.add(0, 1, 7);
        maps.count(0, 1, 8);
        Worlds.bring(maps, 1, 0);
        Worlds.bring(maps, 2, 0);
        Worlds.bring(maps, 3, 0);
        due.is("10 value: four registers are alive", () -> maps.replica(0, 5), 7);
        due.is("10 value 0", () -> maps.value(0, 1, 0), Integer.MIN_VALUE);
        due.is("10 value 1", () -> maps.value(0, 1, 1), 5);
        due.is("10 value 2", () -> maps.value(0, 1, 2), Integer.MAX_VALUE);
        for (int k : new int[] {3, 4, 300, -1, Integer.MAX_VALUE, Integer.MIN_VALUE}) {
            due.is("10 value " + k, () -> maps.value(0, 1, k), Due.NO_SUCH_ELEMENT);
        }
        maps.write(0, 1, 4);
        due.is("10 value after a write that saw all", () -> maps.value(0, 1, 0), 4);
        due.is("10 value is the only one then", () -> maps.value(0, 1, 1), Due.NO_SUCH_ELEMENT);
        due.is("10 value elsewhere is left", () -> maps.value(0, 11, 0), 6);
    }

    private void keys() {
        DottedMaps maps = new DottedMaps(2);
        due.is("11 keys of nothing", () -> maps.keys(0, 0), 0);
        maps.raise(0, 1);
        maps.raise(0, 1);
        due.is("11 keys of all", () -> maps.keys(0, 0), 2);
        due.is("11 keys at a path that has itself alone", () -> maps.keys(0, 1), 0);
        maps.write(0, 124, 0);
        maps.count(0, 121, 1);
        maps.add(0, 14, 0);
        maps.add(0, 444, 0);
        due.is("11 keys of all paths", () -> maps.keys(0, 0), 2 + 16);
        due.is("11 keys of 1", () -> maps.keys(0, 1), 4 + 16);
        due.is("11 keys of 12", () -> maps.keys(0, 12), 2 + 16);
        due.is("11 keys of 14", () -> maps.keys(0, 14), 0);
        due.is("11 keys of 124", () -> maps.keys(0, 124), 0);
        due.is("11 keys of 4", () -> maps.keys(0, 4), 16);
        due.is("11 keys of 44", () -> maps.keys(0, 44), 16);
        due.is("11 keys of 444", () -> maps.keys(0, 444), 0);
        due.is("11 keys of 2", () -> maps.keys(0, 2), 0);
        maps.clear(0, 124, 2);
        due.is("11 keys of 12 after a clear", () -> maps.keys(0, 12), 2);
        due.is("11 keys at the other replica", () -> maps.keys(1, 0), 0);
    }

    private void wrongArguments() {
        DottedMaps maps = new DottedMaps(2);
        for (int path : new int[] {0, -1, 5, 10, 15, 51, 105, 445, 1111, Integer.MAX_VALUE, Integer.MIN_VALUE}) {
            due.refusesArguments("8 sees at " + path, () -> maps.sees(0, path, 1));
            due.refusesArguments("9 sum at " + path, () -> maps.sum(0, path));
            due.refusesArguments("10 value at " + path, () -> maps.value(0, path, 0));
            due.is("11 keys at " + path, () -> maps.keys(0, path), path == 0 ? 0 : Due.ILLEGAL_ARGUMENT);
        }
        for (int kind : new int[] {0, -1, 5, 9, 20, Integer.MAX_VALUE, Integer.MIN_VALUE}) {
            due.refusesArguments("8 sees kind " + kind, () -> maps.sees(0, 1, kind));
        }
        for (int r : new int[] {-1, 2, Integer.MAX_VALUE, Integer.MIN_VALUE}) {
            due.refusesArguments("8 sees by " + r, () -> maps.sees(r, 1, 1));
            due.refusesArguments("9 sum by " + r, () -> maps.sum(r, 1));
            due.refusesArguments("10 value by " + r, () -> maps.value(r, 1, 0));
            due.refusesArguments("11 keys by " + r, () -> maps.keys(r, 0));
        }
        due.refusesArguments("10 value: arguments before k", () -> maps.value(0, 0, -1));
    }

    private void downReplica() {
        DottedMaps maps = new DottedMaps(2);
        maps.power(1, false);
        due.refusesState("8 sees when down", () -> maps.sees(1, 1, 1));
        due.refusesState("9 sum when down", () -> maps.sum(1, 1));
        due.refusesState("10 value when down", () -> maps.value(1, 1, 0));
        due.refusesState("10 value when down, k below 0", () -> maps.value(1, 1, -1));
        due.refusesState("11 keys when down", () -> maps.keys(1, 0));
        due.refusesArguments("8 sees: arguments before being up", () -> maps.sees(1, 1, 5));
        due.refusesArguments("9 sum: arguments before being up", () -> maps.sum(1, 0));
        due.refusesArguments("10 value: arguments before being up", () -> maps.value(1, 0, 0));
        due.refusesArguments("11 keys: arguments before being up", () -> maps.keys(1, 5));
    }
}
