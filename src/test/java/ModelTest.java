import java.util.Random;
import java.util.function.Supplier;

/** Runs of 512 calls, drawn from fixed seeds, on the class and on the model: every answer must be the same. */
public final class ModelTest {
    private static final int RUNS = 2000;
    private static final int CALLS = 512;
    /** From this call on nothing is changed, and what the run has left is looked at. */
    private static final int LOOKS_FROM = 432;
    private static final int[] PATHS = {1, 2, 4, 11, 12, 13, 111, 112, 124, 444};
    private static final int[] ODD = {0, -1, 5, 10, 21, 40, 45, 102, 120, 145, 445, 511, 1111, Integer.MAX_VALUE,
        Integer.MIN_VALUE};
    private static final int[] NUMBERS = {0, 1, -1, 7, 7, 8, Integer.MAX_VALUE, Integer.MIN_VALUE};

    private final Random random;
    private final int replicas;
    private final DottedMaps maps;
    private final Model model;
    private final String run;
    /** Whether messages are rather sent twice than delivered, so that 24 are soon under way. */
    private final boolean crowded;
    private String call;

    private ModelTest(int seed) {
        random = new Random(seed);
        replicas = random.nextInt(6);
        maps = new DottedMaps(replicas);
        model = new Model(replicas);
        crowded = random.nextInt(4) == 0;
        run = "run " + seed + " of " + replicas + " replicas";
    }

    public static void main(String[] args) {
        Due.endInTime();
        for (int seed = 0; seed < RUNS; seed++) {
            if (!new ModelTest(seed).holds()) {
                System.exit(1);
            }
        }
        System.out.println(RUNS + " runs of " + CALLS + " calls answer as the model does");
    }

    private boolean holds() {
        int mood = random.nextInt(4);
        for (int i = 0; i < CALLS; i++) {
            boolean same = i < LOOKS_FROM ? step(i % 97 == 96 ? random.nextInt(4) : mood) : look();
            if (!same) {
                System.out.println(run + ", call " + i + ": " + call);
                return false;
            }
        }
        return true;
    }

    private boolean odd() {
        return random.nextInt(40) == 0;
    }

    private int drawn(int[] row) {
        return row[random.nextInt(row.length)];
    }

    private int replica() {
        return odd() ? random.nextInt(9) - 3 : random.nextInt(Math.max(2, Math.min(4, replicas)));
    }

    private int path() {
        return odd() ? drawn(ODD) : random.nextInt(4) == 0 ? random.nextInt(445) : drawn(PATHS);
    }

    private int kind() {
        return odd() ? random.nextInt(24) - 2 : random.nextBoolean() ? 1 + random.nextInt(4) : 10 + random.nextInt(4);
    }

    private int place() {
        return odd() ? random.nextInt(30) - 3 : random.nextInt(Math.max(1, model.message(-1, 0)));
    }

    private boolean same(String text, Supplier<Object> got, Supplier<Object> want) {
        String wanted = Due.answer(want);
        String answered = Due.answer(got);
        call = text + " answered " + answered + ", due is " + wanted;
        return answered.equals(wanted);
    }

    /** A mood draws more changes, more messages, more failures, or all alike. */
    private boolean step(int mood) {
        int kindOfCall = random.nextInt(10);
        if (mood == 0 && kindOfCall < 6 || kindOfCall < 2) {
            return change();
        }
        if (mood == 1 && kindOfCall < 7 || kindOfCall < 5) {
            return post();
        }
        if (mood == 2 && kindOfCall < 7 || kindOfCall < 6) {
            return failing();
        }
        return look();
    }

    private boolean change() {
        int r = replica();
        int p = path();
        switch (random.nextInt(7)) {
            case 0:
                return same("raise " + r + " " + p, () -> maps.raise(r, p), () -> model.raise(r, p));
            case 1: {
                int v = drawn(NUMBERS);
                return same("write " + r + " " + p + " " + v, () -> maps.write(r, p, v), () -> model.write(r, p, v));
            }
            case 2: {
                int e = odd() ? random.nextInt(14) - 2 : random.nextInt(4);
                return same("add " + r + " " + p + " " + e, () -> maps.add(r, p, e), () -> model.add(r, p, e));
            }
            case 3: {
                int n = drawn(NUMBERS);
                return same("count " + r + " " + p + " " + n, () -> maps.count(r, p, n), () -> model.count(r, p, n));
            }
            case 4: {
                int kind = kind();
                return same("clear " + r + " " + p + " " + kind, () -> maps.clear(r, p, kind),
                    () -> model.clear(r, p, kind));
            }
            case 5: {
                int under = random.nextInt(8) == 0 ? 0 : p;
                return same("erase " + r + " " + under, () -> maps.erase(r, under), () -> model.erase(r, under));
            }
            default: {
                int v = random.nextInt(3);
                return same("write " + r + " 1 " + v, () -> maps.write(r, 1, v), () -> model.write(r, 1, v));
            }
        }
    }

    private boolean post() {
        int r = replica();
        int q = replica();
        int k = place();
        boolean twice = random.nextBoolean();
        switch (random.nextInt(9)) {
            case 0:
            case 1:
            case 2:
                return same("gossip " + r + " " + q, () -> maps.gossip(r, q), () -> model.gossip(r, q));
            case 3:
            case 4:
            case 5:
            case 6:
                if (!crowded || twice) {
                    return same("deliver " + k, () -> maps.deliver(k), () -> model.deliver(k));
                }
                return same("lose " + k + " true", () -> maps.lose(k, true), () -> model.lose(k, true));
            case 7:
                return same("lose " + k + " " + twice, () -> maps.lose(k, twice), () -> model.lose(k, twice));
            default:
                return same("collect " + r, () -> maps.collect(r), () -> model.collect(r));
        }
    }

    private boolean failing() {
        int r = replica();
        switch (random.nextInt(5)) {
            case 0:
                return same("checkpoint " + r, () -> maps.checkpoint(r), () -> model.checkpoint(r));
            case 1: {
                int k = odd() ? random.nextInt(30) - 4 : random.nextInt(5);
                return same("fail " + r + " " + k, () -> maps.fail(r, k), () -> model.fail(r, k));
            }
            case 2: {
                boolean up = random.nextInt(5) != 0;
                return same("power " + r + " " + up, () -> maps.power(r, up), () -> model.power(r, up));
            }
            default:
                return same("power " + r + " true", () -> maps.power(r, true), () -> model.power(r, true));
        }
    }

    private boolean look() {
        int r = replica();
        int p = path();
        int kind = kind();
        int k = odd() ? random.nextInt(300) - 5 : random.nextInt(4);
        int what = random.nextInt(18) - 2;
        switch (random.nextInt(8)) {
            case 0:
                return same("sees " + r + " " + p + " " + kind, () -> maps.sees(r, p, kind), () -> model.sees(r, p, kind));
            case 1:
                return same("sum " + r + " " + p, () -> maps.sum(r, p), () -> model.sum(r, p));
            case 2:
                return same("value " + r + " " + p + " " + k, () -> maps.value(r, p, k), () -> model.value(r, p, k));
            case 3: {
                int under = random.nextInt(3) == 0 ? 0 : p;
                return same("keys " + r + " " + under, () -> maps.keys(r, under), () -> model.keys(r, under));
            }
            case 4:
            case 5:
                return same("replica " + r + " " + what, () -> maps.replica(r, what), () -> model.replica(r, what));
            case 6: {
                int q = replica();
                int w = odd() ? random.nextInt(9) - 3 : random.nextInt(4);
                return same("known " + r + " " + q + " " + w, () -> maps.known(r, q, w), () -> model.known(r, q, w));
            }
            default: {
                int m = random.nextInt(6) == 0 ? -1 : place();
                int w = random.nextInt(9) - 2;
                return same("message " + m + " " + w, () -> maps.message(m, w), () -> model.message(m, w));
            }
        }
    }
}
