import java.util.ArrayList;
import java.util.List;
import java.util.Map;
import java.util.Random;
import java.util.TreeMap;

/** All promises: long runs of calls with fixed seeds, each answer against that of the model. */
public final class ModelTest {
    private static final int RUNS = 140;
    private static final int CALLS = 512;
    private static final int[] ODD = {-1, 4, 5, 6, 8, 13, 31, 32, 33, 39, 40, 63, 64, 160,
        Integer.MAX_VALUE, Integer.MIN_VALUE, Integer.MAX_VALUE - 1, 1 << 30};

    private final Random random;
    private final TwoTimesTable table = new TwoTimesTable();
    private final Model model = new Model();
    private final int tickWeight;
    private final int oddWeight;
    private final boolean shortPeriods;
    private final Map<String, Integer> outcomes;
    private final List<Seen.Question> done = new ArrayList<>();
    private int calls = 0;

    private ModelTest(int seed, Map<String, Integer> outcomes) {
        random = new Random(seed);
        this.outcomes = outcomes;
        tickWeight = 2 + seed % 7 * 2;
        oddWeight = seed % 3 == 0 ? 20 : 3;
        shortPeriods = seed % 2 == 0;
    }

    public static void main(String[] args) {
        Map<String, Integer> outcomes = new TreeMap<>();
        for (int seed = 0; seed < RUNS && !Check.anyWrong(); seed++) {
            new ModelTest(seed, outcomes).go(seed);
        }
        for (String kind : new String[] {"state ok", "state throws.IllegalArgumentException",
            "state throws.IllegalStateException", "state throws.NoSuchElementException", "state full",
            "commit ok", "commit throws.IllegalArgumentException", "commit throws.IllegalStateException",
            "commit throws.NoSuchElementException", "commit full", "tick ok", "tick throws.IllegalStateException"}) {
            Check.holds("the runs reach: " + kind, outcomes.getOrDefault(kind, 0) > 20);
        }
        Check.end("ModelTest");
    }

    private void go(int seed) {
        while (calls < CALLS && !Check.anyWrong()) {
            String at = "seed " + seed + " call " + calls + " ";
            int dice = random.nextInt(100);
            if (dice < 40) {
                statement(at);
            } else if (dice < 40 + tickWeight) {
                change(at + "tick()", "tick", TwoTimesTable::tick, model::tick);
            } else if (dice < 70) {
                waiting(at);
            } else {
                reading(at);
            }
        }
        everything("seed " + seed + " at its end ");
    }

    private void both(String what, String name, Check.Call got, Check.Call want) {
        if (calls == CALLS) {
            return;
        }
        calls++;
        String due = Check.outcome(want);
        Check.same(what, due, Check.outcome(got));
        String kind = due.startsWith("throws") ? due : "ok";
        outcomes.merge(name + " " + kind, 1, Integer::sum);
        if (due.equals("throws.IllegalStateException") && model.rows() > 140) {
            outcomes.merge(name + " full", 1, Integer::sum);
        }
    }

    /** As both(), with a call that may change the table and so is done again wherever the table is made again. */
    private void change(String what, String name, Seen.Question call, Check.Call want) {
        if (calls < CALLS) {
            done.add(call);
        }
        both(what, name, () -> call.of(table), want);
    }

    private void again(TwoTimesTable x) {
        for (Seen.Question call : done) {
            Check.outcome(() -> call.of(x));
        }
    }

    private int odd(int usual) {
        return random.nextInt(100) < oddWeight ? ODD[random.nextInt(ODD.length)] : usual;
    }

    private int key() {
        return odd(random.nextInt(4));
    }

    private int time() {
        return odd(random.nextInt(model.clock() + 1));
    }

    private int number() {
        return random.nextInt(10) == 0 ? random.nextInt() : random.nextInt(3);
    }

    private int[] period() {
        int from = random.nextInt(32);
        int to = from + 1 + random.nextInt(shortPeriods ? Math.min(3, 32 - from) : 32 - from);
        if (random.nextInt(8) == 0) {
            from = 0;
        }
        if (random.nextInt(8) == 0) {
            to = 32;
        }
        return new int[] {odd(from), odd(to)};
    }

    private int[] words() {
        int[] p = period();
        int kind = random.nextInt(3) == 0 ? 0 : random.nextInt(5);
        return new int[] {odd(kind), key(), number(), p[0], p[1]};
    }

    private static String told(String name, int... words) {
        return name + java.util.Arrays.toString(words);
    }

    private void statement(String at) {
        int[] w = words();
        change(at + told("state", w), "state", x -> x.state(w[0], w[1], w[2], w[3], w[4]),
                () -> model.state(w[0], w[1], w[2], w[3], w[4]));
    }

    private void waiting(String at) {
        if (random.nextInt(4) == 0) {
            change(at + "commit()", "commit", TwoTimesTable::commit, model::commit);
            both(at + "failed()", "failed", table::failed, model::failed);
            return;
        }
        for (int i = random.nextInt(4); i >= 0; i--) {
            int[] w = words();
            change(at + told("queue", w), "queue", x -> Check.of(x.queue(w[0], w[1], w[2], w[3], w[4])),
                    () -> Check.of(model.queue(w[0], w[1], w[2], w[3], w[4])));
        }
    }

    private void reading(String at) {
        int a = key();
        int b = key();
        int t = time();
        int d = odd(random.nextInt(32));
        int[] p = period();
        int[] q = period();
        int k = odd(random.nextInt(6));
        int part = odd(random.nextInt(3));
        int r = odd(random.nextInt(13));
        int rowK = odd(random.nextInt(model.rows() + 1));
        int rowPart = odd(random.nextInt(6));
        switch (random.nextInt(12)) {
            case 0 -> both(at + "clock()", "clock", table::clock, model::clock);
            case 1 -> both(at + "failed()", "failed", table::failed, model::failed);
            case 2 -> both(at + told("value", a, d, t), "value", () -> table.value(a, d, t),
                    () -> model.value(a, d, t));
            case 3 -> both(at + told("has", a, d, t), "has", () -> Check.of(table.has(a, d, t)),
                    () -> Check.of(model.has(a, d, t)));
            case 4 -> both(at + told("sum", a, p[0], p[1], t), "sum", () -> table.sum(a, p[0], p[1], t),
                    () -> model.sum(a, p[0], p[1], t));
            case 5 -> both(at + told("runs", a, t), "runs", () -> table.runs(a, t), () -> model.runs(a, t));
            case 6 -> both(at + told("run", a, t, k, part), "run", () -> table.run(a, t, k, part),
                    () -> model.run(a, t, k, part));
            case 7 -> both(at + "rows()", "rows", table::rows, model::rows);
            case 8 -> both(at + told("row", rowK, rowPart), "row", () -> table.row(rowK, rowPart),
                    () -> model.row(rowK, rowPart));
            case 9 -> both(at + told("changes", a, d), "changes", () -> table.changes(a, d), () -> model.changes(a, d));
            case 10 -> both(at + told("relation", p[0], p[1], q[0], q[1]), "relation",
                    () -> table.relation(p[0], p[1], q[0], q[1]), () -> model.relation(p[0], p[1], q[0], q[1]));
            default -> both(at + told("join", a, b, t, r), "join", () -> table.join(a, b, t, r),
                    () -> model.join(a, b, t, r));
        }
    }

    /**
     * What no call of the run asked about, of tables that are made as this one was, as it has had its 512 calls.
     */
    private void everything(String at) {
        int left = CALLS - done.size();
        List<Seen.Question> questions = new ArrayList<>();
        List<String> due = new ArrayList<>();
        ask(questions, due);
        for (int first = 0; left > 0 && first < questions.size(); first += left) {
            TwoTimesTable x = Seen.made(this::again);
            for (int i = first; i < Math.min(first + left, questions.size()); i++) {
                Seen.Question question = questions.get(i);
                Check.same(at + "question " + i, due.get(i), Check.outcome(() -> question.of(x)));
            }
        }
        Check.holds(at + "there is room for questions", left > 0);
    }

    private void ask(List<Seen.Question> questions, List<String> due) {
        int time = model.clock();
        List<Integer> parts = model.allParts();
        for (int i = 0; i < parts.size(); i++) {
            int n = i;
            questions.add(x -> x.row(n / 6, n % 6));
            due.add(Integer.toString(parts.get(i)));
        }
        questions.add(TwoTimesTable::rows);
        due.add(Integer.toString(parts.size() / 6));
        for (int i = 0; i < (time + 1) * 128; i++) {
            int n = i;
            questions.add(x -> x.value(n / 32 % 4, n % 32, n / 128));
            due.add(Check.outcome(() -> model.value(n / 32 % 4, n % 32, n / 128)));
        }
        for (int i = 0; i < 16 * 13; i++) {
            int n = i;
            questions.add(x -> x.join(n / 13 % 4, n / 52, time, n % 13));
            due.add(Integer.toString(model.join(n / 13 % 4, n / 52, time, n % 13)));
        }
    }
}
