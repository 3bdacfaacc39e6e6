import java.util.Map;
import java.util.Random;
import java.util.TreeMap;

/** All promises: long runs of calls with fixed seeds, each answer against that of the model. */
public final class ModelTest {
    private static final int RUNS = 140;
    private static final int CALLS = 512;
    private static final int[] ODD = {-1, 4, 5, 6, 8, 13, 31, 32, 33, 39, 40, 63, 64, 160,
        Integer.MAX_VALUE, Integer.MIN_VALUE, Integer.MAX_VALUE - 1, 1 << 30};

    private final Random random;
    private final TwoTimesTable table = new TwoTimesTable();
    private final Model model = new Model();
    private final int tickWeight;
    private final int oddWeight;
    private final boolean shortPeriods;
    private final Map<String, Integer> outcomes;

    private ModelTest(int seed, Map<String, Integer> outcomes) {
        random = new Random(seed);
        this.outcomes = outcomes;
        tickWeight = 2 + seed % 7 * 2;
        oddWeight = seed % 3 == 0 ? 20 : 3;
        shortPeriods = seed % 2 == 0;
    }

    public static void main(String[] args) {
        Map<String, Integer> outcomes = new TreeMap<>();
        for (int seed = 0; seed < RUNS && !Check.anyWrong(); seed++) {
            new ModelTest(seed, outcomes).go(seed);
        }
        for (String kind : new String[] {"state ok", "state throws.IllegalArgumentException",
            "state throws.IllegalStateException", "state throws.NoSuchElementException", "state full",
            "commit ok", "commit throws.IllegalArgumentException", "commit throws.IllegalStateException",
            "commit throws.NoSuchElementException", "commit full", "tick ok", "tick throws.IllegalStateException"}) {
            Check.holds("the runs reach: " + kind, outcomes.getOrDefault(kind, 0) > 20);
        }
        Check.end("ModelTest");
    }

    private void go(int seed) {
        for (int i = 0; i < CALLS && !Check.anyWrong(); i++) {
            String at = "seed " + seed + " call " + i + " ";
            int dice = random.nextInt(100);
            if (dice < 40) {
                statement(at);
            } else if (dice < 40 + tickWeight) {
                both(at + "tick()", "tick", table::tick, model::tick);
            } else if (dice < 70) {
                waiting(at);
            } else {
                reading(at);
            }
        }
        everything("seed " + seed + " at its end ");
    }

    private void both(String what, String name, Check.Call got, Check.Call want) {
        int before = model.rows();
        String due = Check.outcome(want);
        Check.same(what, due, Check.outcome(got));
        String kind = due.startsWith("throws") ? due : "ok";
        outcomes.merge(name + " " + kind, 1, Integer::sum);
        if (due.equals("throws.IllegalStateException") && before > 140) {
            outcomes.merge(name + " full", 1, Integer::sum);
        }
    }

    private int odd(int usual) {
        return random.nextInt(100) < oddWeight ? ODD[random.nextInt(ODD.length)] : usual;
    }

    private int key() {
        return odd(random.nextInt(4));
    }

    private int time() {
        return odd(random.nextInt(model.clock() + 1));
    }

    private int number() {
        return random.nextInt(10) == 0 ? random.nextInt() : random.nextInt(3);
    }

    private int[] period() {
        int from = random.nextInt(32);
        int to = from + 1 + random.nextInt(shortPeriods ? Math.min(3, 32 - from) : 32 - from);
        if (random.nextInt(8) == 0) {
            from = 0;
        }
        if (random.nextInt(8) == 0) {
            to = 32;
        }
        return new int[] {odd(from), odd(to)};
    }

    private int[] words() {
        int[] p = period();
        int kind = random.nextInt(3) == 0 ? 0 : random.nextInt(5);
        return new int[] {odd(kind), key(), number(), p[0], p[1]};
    }

    private static String told(String name, int... words) {
        return name + java.util.Arrays.toString(words);
    }

    private void statement(String at) {
        int[] w = words();
        both(at + told("state", w), "state", () -> table.state(w[0], w[1], w[2], w[3], w[4]),
                () -> model.state(w[0], w[1], w[2], w[3], w[4]));
    }

    private void waiting(String at) {
        if (random.nextInt(4) == 0) {
            both(at + "commit()", "commit", table::commit, model::commit);
            both(at + "failed()", "failed", table::failed, model::failed);
            return;
        }
        for (int i = random.nextInt(4); i >= 0; i--) {
            int[] w = words();
            both(at + told("queue", w), "queue", () -> Check.of(table.queue(w[0], w[1], w[2], w[3], w[4])),
                    () -> Check.of(model.queue(w[0], w[1], w[2], w[3], w[4])));
        }
    }

    private void reading(String at) {
        int a = key();
        int b = key();
        int t = time();
        int d = odd(random.nextInt(32));
        int[] p = period();
        int[] q = period();
        int k = odd(random.nextInt(6));
        int part = odd(random.nextInt(3));
        int r = odd(random.nextInt(13));
        int rowK = odd(random.nextInt(model.rows() + 1));
        int rowPart = odd(random.nextInt(6));
        switch (random.nextInt(12)) {
            case 0 -> both(at + "clock()", "clock", table::clock, model::clock);
            case 1 -> both(at + "failed()", "failed", table::failed, model::failed);
            case 2 -> both(at + told("value", a, d, t), "value", () -> table.value(a, d, t), () -> model.value(a, d, t));
            case 3 -> both(at + told("has", a, d, t), "has", () -> Check.of(table.has(a, d, t)),
                    () -> Check.of(model.has(a, d, t)));
            case 4 -> both(at + told("sum", a, p[0], p[1], t), "sum", () -> table.sum(a, p[0], p[1], t),
                    () -> model.sum(a, p[0], p[1], t));
            case 5 -> both(at + told("runs", a, t), "runs", () -> table.runs(a, t), () -> model.runs(a, t));
            case 6 -> both(at + told("run", a, t, k, part), "run", () -> table.run(a, t, k, part),
                    () -> model.run(a, t, k, part));
            case 7 -> both(at + "rows()", "rows", table::rows, model::rows);
            case 8 -> both(at + told("row", rowK, rowPart), "row", () -> table.row(rowK, rowPart),
                    () -> model.row(rowK, rowPart));
            case 9 -> both(at + told("changes", a, d), "changes", () -> table.changes(a, d), () -> model.changes(a, d));
            case 10 -> both(at + told("relation", p[0], p[1], q[0], q[1]), "relation",
                    () -> table.relation(p[0], p[1], q[0], q[1]), () -> model.relation(p[0], p[1], q[0], q[1]));
            default -> both(at + told("join", a, b, t, r), "join", () -> table.join(a, b, t, r),
                    () -> model.join(a, b, t, r));
        }
    }

    /** Reading changes nothing, so what no call of the run asked about is asked here. */
    private void everything(String at) {
        int rows = model.rows();
        Check.due(at + "rows()", rows, table::rows);
        for (int i = 0; i < rows * 6; i++) {
            int n = i;
            Check.due(at + "row", model.row(n / 6, n % 6), () -> table.row(n / 6, n % 6));
        }
        for (int i = 0; i < (model.clock() + 1) * 128; i++) {
            int day = i % 32;
            int key = i / 32 % 4;
            int time = i / 128;
            Check.same(at + told("value", key, day, time), Check.outcome(() -> model.value(key, day, time)),
                    Check.outcome(() -> table.value(key, day, time)));
        }
        for (int i = 0; i < 16 * 13; i++) {
            int n = i;
            int time = model.clock();
            Check.due(at + "join", model.join(n / 13 % 4, n / 52, time, n % 13),
                    () -> table.join(n / 13 % 4, n / 52, time, n % 13));
        }
    }
}
