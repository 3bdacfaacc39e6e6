import java.util.ArrayList;
import java.util.Collections;
import java.util.List;
import java.util.Map;
import java.util.NoSuchElementException;
import java.util.TreeMap;

/**
 * The document said once more, as plainly as can be and without regard to cost: a state is a map
 * from days to values for each key, and rows are looked for by their definition.
 */
final class Model {
    record Run(int key, int value, int from, int to) {
    }

    record Row(Run what, int begin, int end) {
    }

    private final List<List<TreeMap<Integer, Integer>>> states = new ArrayList<>();
    private final List<int[]> waiting = new ArrayList<>();
    private int failed = -1;

    Model() {
        states.add(List.of(new TreeMap<>(), new TreeMap<>(), new TreeMap<>(), new TreeMap<>()));
    }

    private static List<TreeMap<Integer, Integer>> copy(List<TreeMap<Integer, Integer>> state) {
        List<TreeMap<Integer, Integer>> made = new ArrayList<>();
        for (TreeMap<Integer, Integer> days : state) {
            made.add(new TreeMap<>(days));
        }
        return made;
    }

    private static void need(boolean holds) {
        if (!holds) {
            throw new IllegalArgumentException();
        }
    }

    private static boolean period(int from, int to) {
        return 0 <= from && from < to && to <= 32;
    }

    private boolean place(int key, int time) {
        return 0 <= key && key <= 3 && 0 <= time && time < states.size();
    }

    int tick() {
        if (clock() == 39) {
            throw new IllegalStateException();
        }
        states.add(copy(states.get(clock())));
        return clock();
    }

    int clock() {
        return states.size() - 1;
    }

    int state(int kind, int key, int value, int from, int to) {
        need(kind >= 0 && kind <= 4 && place(key, 0) && period(from, to));
        List<TreeMap<Integer, Integer>> before = states.get(clock());
        List<TreeMap<Integer, Integer>> after = copy(before);
        TreeMap<Integer, Integer> days = after.get(key);
        Map<Integer, Integer> there = days.subMap(from, to);
        if (kind >= 2 && there.isEmpty()) {
            throw new NoSuchElementException();
        }
        if (kind == 1 && !there.isEmpty()) {
            throw new IllegalStateException();
        }
        for (int day = from; day < to; day++) {
            if (kind <= 1) {
                days.put(day, value);
            } else if (days.containsKey(day)) {
                days.compute(day, (d, old) -> kind == 2 ? (Integer) value : kind == 3 ? old + value : null);
            }
        }
        states.set(clock(), after);
        if (allRows().size() > 150) {
            states.set(clock(), before);
            throw new IllegalStateException();
        }
        int changed = 0;
        for (int day = 0; day < 32; day++) {
            changed += same(before.get(key).get(day), days.get(day)) ? 0 : 1;
        }
        return changed;
    }

    private static boolean same(Integer a, Integer b) {
        return a == null ? b == null : a.equals(b);
    }

    boolean queue(int kind, int key, int value, int from, int to) {
        return waiting.size() < 8 && waiting.add(new int[] {kind, key, value, from, to});
    }

    int commit() {
        List<TreeMap<Integer, Integer>> before = copy(states.get(clock()));
        List<int[]> todo = new ArrayList<>(waiting);
        waiting.clear();
        failed = -1;
        int total = 0;
        for (int[] s : todo) {
            try {
                total += state(s[0], s[1], s[2], s[3], s[4]);
            } catch (RuntimeException e) {
                failed = todo.indexOf(s);
                states.set(clock(), before);
                throw e;
            }
        }
        return total;
    }

    int failed() {
        return failed;
    }

    int value(int key, int day, int time) {
        need(place(key, time) && day >= 0 && day < 32);
        if (!has(key, day, time)) {
            throw new NoSuchElementException();
        }
        return states.get(time).get(key).get(day);
    }

    boolean has(int key, int day, int time) {
        return place(key, time) && states.get(time).get(key).containsKey(day);
    }

    long sum(int key, int from, int to, int time) {
        need(place(key, time) && period(from, to));
        return states.get(time).get(key).subMap(from, to).values().stream().mapToLong(v -> v).sum();
    }

    /** The periods with one value on all days that no day can be added to at either end. */
    private List<Run> allRuns(int key, int time) {
        TreeMap<Integer, Integer> days = states.get(time).get(key);
        List<Run> found = new ArrayList<>();
        for (int from : days.keySet()) {
            int v = days.get(from);
            if (!same(days.get(from - 1), v)) {
                int to = from;
                while (same(days.get(to), v)) {
                    to++;
                }
                found.add(new Run(key, v, from, to));
            }
        }
        return found;
    }

    int runs(int key, int time) {
        need(place(key, time));
        return allRuns(key, time).size();
    }

    int run(int key, int time, int k, int part) {
        need(place(key, time) && part >= 0 && part <= 2);
        Run r = allRuns(key, time).get(within(k, runs(key, time)));
        return List.of(r.from, r.to, r.value).get(part);
    }

    private static int within(int k, int size) {
        if (k < 0 || k >= size) {
            throw new IndexOutOfBoundsException();
        }
        return k;
    }

    private List<Row> allRows() {
        List<Row> found = new ArrayList<>();
        for (int key = 0; key < 4; key++) {
            List<List<Run>> byTime = new ArrayList<>();
            for (int time = 0; time < states.size(); time++) {
                byTime.add(allRuns(key, time));
            }
            for (int begin = 0; begin < states.size(); begin++) {
                for (Run r : byTime.get(begin)) {
                    if (begin == 0 || !byTime.get(begin - 1).contains(r)) {
                        int end = begin;
                        while (end < states.size() && byTime.get(end).contains(r)) {
                            end++;
                        }
                        found.add(new Row(r, begin, end == states.size() ? -1 : end));
                    }
                }
            }
        }
        List<Row> sorted = new ArrayList<>(found);
        Collections.sort(sorted, (a, b) -> a.what.key != b.what.key ? a.what.key - b.what.key
                : a.begin != b.begin ? a.begin - b.begin : a.what.from - b.what.from);
        return sorted;
    }

    int rows() {
        return allRows().size();
    }

    int row(int k, int part) {
        need(part >= 0 && part <= 5);
        List<Integer> parts = allParts();
        return parts.get(within(k, parts.size() / 6) * 6 + part);
    }

    /** The six parts of each row, one row behind the other. */
    List<Integer> allParts() {
        List<Integer> parts = new ArrayList<>();
        for (Row r : allRows()) {
            parts.addAll(List.of(r.what.key, r.what.value, r.what.from, r.what.to, r.begin, r.end));
        }
        return parts;
    }

    int changes(int key, int day) {
        need(place(key, 0) && day >= 0 && day < 32);
        int count = 0;
        for (int time = 1; time < states.size(); time++) {
            count += same(states.get(time - 1).get(key).get(day), states.get(time).get(key).get(day)) ? 0 : 1;
        }
        return count;
    }

    /** By the signs of the four comparisons of the ends. */
    int relation(int a, int b, int c, int d) {
        need(period(a, b) && period(c, d));
        if (b <= c) {
            return b < c ? 0 : 1;
        }
        if (d <= a) {
            return d < a ? 12 : 11;
        }
        int[][] byEnds = {{2, 7, 8}, {3, 6, 9}, {4, 5, 10}};
        return byEnds[Integer.compare(a, c) + 1][Integer.compare(b, d) + 1];
    }

    int join(int key, int other, int time, int r) {
        need(place(key, time) && place(other, time) && r >= 0 && r <= 12);
        int count = 0;
        for (Run one : allRuns(key, time)) {
            for (Run two : allRuns(other, time)) {
                count += relation(one.from, one.to, two.from, two.to) == r ? 1 : 0;
            }
        }
        return count;
    }
}
