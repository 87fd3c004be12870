import java.util.ArrayList;
import java.util.List;

/** Promises 8 to 11 at their edges: nothing and all that can be seen, sums that wrap, the first and the last value. */
public final class SightEdgeTest {
    private static final int LEAST = Integer.MIN_VALUE;
    private static final int MOST = Integer.MAX_VALUE;

    private final Due due = new Due();
    private final List<Integer> paths = new ArrayList<>();

    public static void main(String[] args) {
        SightEdgeTest test = new SightEdgeTest();
        test.allPaths();
        test.nothing();
        test.justThePath();
        test.elementsAndKinds();
        test.sumWraps();
        test.sumOfMany();
        test.differentValues();
        test.valuesInOrder();
        test.keysOfEachPath();
        test.keysOfAll();
        test.keysOfThreeDigits();
        test.keysOfWhatIsTakenOut();
        test.due.end();
    }

    private void allPaths() {
        for (int path = 1; path <= 444; path++) {
            if (String.valueOf(path).matches("[1-4]{1,3}")) {
                paths.add(path);
            }
        }
    }

    /** Replica 0 of four has the register of each replica at path 3, each written unseen by the others. */
    private static DottedMaps written(int... numbers) {
        DottedMaps maps = new DottedMaps(4);
        for (int r = 0; r < numbers.length; r++) {
            maps.write(r, 3, numbers[r]);
        }
        for (int r = 1; r < numbers.length; r++) {
            Worlds.bring(maps, r, 0);
        }
        return maps;
    }

    private static DottedMaps counted(int... numbers) {
        DottedMaps maps = new DottedMaps(2);
        for (int n : numbers) {
            maps.count(0, 3, n);
        }
        return maps;
    }

    private void nothing() {
        DottedMaps maps = new DottedMaps(2);
        for (int kind : new int[] {1, 2, 3, 4, 10, 19}) {
            due.is("8 sees nothing of kind " + kind, () -> maps.sees(1, 444, kind), false);
        }
        due.is("9 sum of nothing", () -> maps.sum(1, 444), 0);
        due.is("10 value of nothing", () -> maps.value(1, 444, 0), Due.NO_SUCH_ELEMENT);
        due.is("11 keys of nothing", () -> maps.keys(1, 44), 0);
    }

    /** "alive at just a path": sees, sum and value, for each two of the 84 paths. */
    private void justThePath() {
        for (int path : paths) {
            for (int asked : paths) {
                DottedMaps maps = new DottedMaps(2);
                maps.write(0, path, 5);
                maps.count(0, path, 6);
                boolean same = path == asked;
                String at = " at " + asked + " of what is at " + path;
                due.is("8 sees" + at, () -> maps.sees(0, asked, 2), same);
                due.is("9 sum" + at, () -> maps.sum(0, asked), same ? 6 : 0);
                due.is("10 value" + at, () -> maps.value(0, asked, 0), same ? 5 : Due.NO_SUCH_ELEMENT);
            }
        }
    }

    /** "of a kind (1 .. 4, or 10 + e)": each alone. */
    private void elementsAndKinds() {
        for (int e = 0; e <= 9; e++) {
            DottedMaps maps = new DottedMaps(2);
            maps.add(0, 3, e);
            for (int kind = 1; kind <= 19; kind++) {
                int asked = kind;
                Object want = kind == 3 || kind == 10 + e ? true : kind >= 5 && kind <= 9 ? Due.ILLEGAL_ARGUMENT : false;
                due.is("8 sees kind " + kind + " of element " + e, () -> maps.sees(0, 3, asked), want);
            }
            DottedMaps others = new DottedMaps(2);
            others.raise(0, 3);
            others.write(0, 3, e);
            others.count(0, 3, e + 1);
            int kind = 10 + e;
            due.is("8 no flag, register or count is element " + e, () -> others.sees(0, 3, kind), false);
            due.is("8 nor any element", () -> others.sees(0, 3, 3), false);
        }
    }

    /** "The sum (which wraps)": on both sides, and back again. */
    private void sumWraps() {
        due.is("9 sum to the greatest", () -> counted(MOST - 1, 1).sum(0, 3), MOST);
        due.is("9 sum above the greatest", () -> counted(MOST, 1).sum(0, 3), LEAST);
        due.is("9 sum of twice the greatest", () -> counted(MOST, MOST).sum(0, 3), -2);
        due.is("9 sum to the least", () -> counted(LEAST + 1, -1).sum(0, 3), LEAST);
        due.is("9 sum below the least", () -> counted(LEAST, -1).sum(0, 3), MOST);
        due.is("9 sum of twice the least", () -> counted(LEAST, LEAST).sum(0, 3), 0);
        due.is("9 sum that wraps and comes back", () -> counted(MOST, 5, -6).sum(0, 3), MOST - 1);
        due.is("9 sum of both ends", () -> counted(MOST, LEAST).sum(0, 3), -1);
        DottedMaps maps = new DottedMaps(2);
        maps.count(0, 3, MOST);
        maps.count(1, 3, MOST);
        Worlds.bring(maps, 1, 0);
        due.is("9 sum of two replicas wraps", () -> maps.sum(0, 3), -2);
        due.is("9 sum of one does not", () -> maps.sum(1, 3), MOST);
    }

    /** COUNTs alone, each of them, as long as they are alive. */
    private void sumOfMany() {
        DottedMaps maps = new DottedMaps(2);
        maps.write(0, 3, 1000);
        maps.add(0, 3, 9);
        maps.raise(0, 3);
        due.is("9 sum of other kinds", () -> maps.sum(0, 3), 0);
        int total = 0;
        for (int n = 1; n <= 57; n++) {
            maps.count(0, 3, n);
            total += n;
            int wanted = total;
            due.is("9 sum to " + n, () -> maps.sum(0, 3), wanted);
        }
        maps.clear(0, 3, 4);
        due.is("9 sum of what was taken out", () -> maps.sum(0, 3), 0);
        due.is("9 sum that is 0 by chance", () -> counted(5, -5).sum(0, 3), 0);
        due.is("8 is seen all the same", () -> counted(5, -5).sees(0, 3, 4), true);
    }

    /** "The k-th (from 0) of the different numbers": one that is there several times counts once. */
    private void differentValues() {
        int[][] rows = {{7}, {7, 7}, {7, 7, 7, 7}, {7, 8}, {7, 8, 7, 8}, {LEAST, MOST, LEAST, MOST}, {0, 0, -1, 0},
            {LEAST, LEAST, LEAST + 1, LEAST + 1}, {MOST, MOST, MOST, MOST - 1}, {1, 2, 3, 4}, {LEAST, -1, 0, MOST}};
        for (int[] row : rows) {
            int[] different = java.util.Arrays.stream(row).sorted().distinct().toArray();
            DottedMaps maps = written(row);
            String of = " of " + java.util.Arrays.toString(row);
            due.is("10 registers" + of, () -> maps.replica(0, 5), row.length);
            for (int k = 0; k < different.length; k++) {
                int place = k;
                due.is("10 value " + k + of, () -> maps.value(0, 3, place), different[k]);
            }
            for (int k : new int[] {LEAST, -1, different.length, different.length + 1, row.length, 5, 240, MOST}) {
                if (k < 0 || k >= different.length) {
                    due.is("10 value " + k + of, () -> maps.value(0, 3, k), Due.NO_SUCH_ELEMENT);
                }
            }
        }
    }

    /** "from the least up", in whatever order they came. */
    private void valuesInOrder() {
        int[] sorted = {LEAST, -5, 5, MOST};
        for (int code = 0; code < 256; code++) {
            int[] order = {code & 3, code >> 2 & 3, code >> 4 & 3, code >> 6};
            if (java.util.Arrays.stream(order).distinct().count() == 4) {
                DottedMaps maps = written(sorted[order[0]], sorted[order[1]], sorted[order[2]], sorted[order[3]]);
                for (int k = 0; k < 4; k++) {
                    int place = k;
                    due.is("10 value " + k + " in order " + code, () -> maps.value(0, 3, place), sorted[k]);
                }
                due.is("10 value 4 in order " + code, () -> maps.value(0, 3, 4), Due.NO_SUCH_ELEMENT);
            }
        }
    }

    /** "at the path with d behind its digits or below that: the sum of 2^d": for each two of the 84 paths. */
    private void keysOfEachPath() {
        for (int path : paths) {
            String digits = String.valueOf(path);
            for (int asked : paths) {
                DottedMaps maps = new DottedMaps(2);
                maps.add(0, path, 0);
                String above = String.valueOf(asked);
                boolean below = digits.startsWith(above) && digits.length() > above.length();
                int want = below ? 1 << digits.charAt(above.length()) - '0' : 0;
                due.is("11 keys at " + asked + " of " + path, () -> maps.keys(0, asked), want);
            }
            DottedMaps maps = new DottedMaps(2);
            maps.count(0, path, 1);
            due.is("11 keys of all, of " + path, () -> maps.keys(0, 0), 1 << digits.charAt(0) - '0');
        }
    }

    /** "For path 0: for paths that begin with d": each set of digits, each digit once. */
    private void keysOfAll() {
        for (int set = 0; set < 16; set++) {
            for (int path : new int[] {0, 2, 34}) {
                DottedMaps maps = new DottedMaps(2);
                int want = 0;
                for (int d = 1; d <= 4; d++) {
                    if ((set >> d - 1 & 1) == 1) {
                        maps.raise(0, path * 10 + d);
                        maps.write(0, path * 10 + d, 1);
                        want += 1 << d;
                    }
                }
                int wanted = want;
                due.is("11 keys at " + path + " of set " + set, () -> maps.keys(0, path), wanted);
            }
        }
    }

    /** "For a path of three digits 0", also when something is alive there. */
    private void keysOfThreeDigits() {
        for (int path : paths) {
            if (path > 100) {
                DottedMaps maps = new DottedMaps(2);
                maps.raise(0, path);
                due.is("11 keys at " + path, () -> maps.keys(0, path), 0);
                due.is("11 and yet it is seen", () -> maps.sees(0, path, 1), true);
            }
        }
    }

    /** "something is alive, at replica r": of any kind, and no more when it is taken out. */
    private void keysOfWhatIsTakenOut() {
        for (int kind = 1; kind <= 4; kind++) {
            DottedMaps maps = new DottedMaps(2);
            int of = kind;
            due.is("11 a new entry of kind " + kind, () -> of == 1 ? maps.raise(0, 123) : of == 2 ? maps.write(0, 123, 0)
                : of == 3 ? maps.add(0, 123, 0) : maps.count(0, 123, 1), 1);
            due.is("11 keys of kind " + kind, () -> maps.keys(0, 12), 8);
            due.is("11 keys at the other replica", () -> maps.keys(1, 12), 0);
            Worlds.bring(maps, 0, 1);
            maps.clear(0, 123, kind);
            due.is("11 keys of what is taken out", () -> maps.keys(0, 12), 0);
            due.is("11 keys where that has not come", () -> maps.keys(1, 12), 8);
            Worlds.bring(maps, 0, 1);
            due.is("11 keys where it has come", () -> maps.keys(1, 12), 0);
        }
    }
}
