import java.util.ArrayList;
import java.util.List;
import java.util.Random;

/**
 * RUNS and ROWS by the document's own definitions, looked for among all periods and all pairs of times, in what value()
 * answers; and the changes from one time to the next.
 */
public final class DefinitionTest {
    private static final int TABLES = 24;
    private static final int OPEN = TwoTimesTable.NONE;

    private final String told;
    private final Seen.Making making;
    private final int present;
    private final String[][][] days;
    private final boolean[][][][] isRun;

    private DefinitionTest(int seed) {
        told = "seed " + seed;
        making = making(seed);
        present = Seen.made(making).clock();
        days = new String[present + 1][4][32];
        isRun = new boolean[present + 1][4][32][33];
    }

    public static void main(String[] args) {
        int most = 0;
        for (int seed = 0; seed < TABLES; seed++) {
            DefinitionTest test = new DefinitionTest(seed);
            test.readDays();
            test.findRuns();
            test.runsAreThese();
            most = Math.max(most, test.rowsAreThese());
            test.changesAreThese();
        }
        Check.holds("some table has many rows", most > 100);
        Check.end("DefinitionTest");
    }

    /** Few values and a few keys at a time, so that runs join, part and come back. */
    private static Seen.Making making(int seed) {
        return x -> {
            Random random = new Random(seed);
            int longest = 1 + seed % 6 * 6;
            for (int i = 0; i < 240; i++) {
                int from = random.nextInt(32);
                int to = Math.min(32, from + 1 + random.nextInt(longest));
                int kind = random.nextInt(5);
                int key = random.nextInt(4);
                int value = random.nextInt(2 + seed % 3);
                Check.outcome(() -> x.state(kind, key, value, from, to));
                if (random.nextInt(10 + seed % 4 * 5) == 0 && x.clock() < 39) {
                    x.tick();
                }
            }
        };
    }

    private void these(String what, List<String> due, List<Seen.Question> questions) {
        List<String> answers = Seen.answers(making, questions);
        for (int i = 0; i < due.size(); i++) {
            Check.same(what + ", question " + i, due.get(i), answers.get(i));
        }
    }

    /** "At every time of the clock each key has on each day a VALUE (an int) or NOTHING": here null is nothing. */
    private void readDays() {
        List<Seen.Question> questions = new ArrayList<>();
        for (int i = 0; i < (present + 1) * 128; i++) {
            int n = i;
            questions.add(x -> x.value(n / 32 % 4, n % 32, n / 128));
        }
        List<String> answers = Seen.answers(making, questions);
        for (int i = 0; i < answers.size(); i++) {
            String answer = answers.get(i);
            days[i / 128][i / 32 % 4][i % 32] = answer.equals("throws.NoSuchElementException") ? null : answer;
        }
    }

    private boolean sameOnAllDays(int time, int key, int from, int to) {
        String value = days[time][key][from];
        boolean same = value != null;
        for (int day = from; day < to; day++) {
            same = same && value.equals(days[time][key][day]);
        }
        return same;
    }

    /** "the longest periods in which it has the same value on all days": there is no longer one around it. */
    private void findRuns() {
        for (int i = 0; i < (present + 1) * 4; i++) {
            for (int from = 0; from < 32; from++) {
                for (int to = from + 1; to <= 32; to++) {
                    isRun[i / 4][i % 4][from][to] = sameOnAllDays(i / 4, i % 4, from, to)
                            && !longerAround(i / 4, i % 4, from, to);
                }
            }
        }
    }

    private boolean longerAround(int time, int key, int from, int to) {
        for (int first = 0; first <= from; first++) {
            for (int last = to; last <= 32; last++) {
                if (last - first > to - from && sameOnAllDays(time, key, first, last)) {
                    return true;
                }
            }
        }
        return false;
    }

    /** "they are numbered 0, 1, .. from the first day on". */
    private void runsAreThese() {
        List<Seen.Question> questions = new ArrayList<>();
        List<String> due = new ArrayList<>();
        for (int i = 0; i < (present + 1) * 4; i++) {
            int time = i / 4;
            int key = i % 4;
            int count = 0;
            for (int j = 0; j < 32 * 33; j++) {
                if (isRun[time][key][j / 33][j % 33]) {
                    int k = count++;
                    questions.add(x -> x.run(key, time, k, 0));
                    due.add(Integer.toString(j / 33));
                    questions.add(x -> x.run(key, time, k, 1));
                    due.add(Integer.toString(j % 33));
                    questions.add(x -> x.run(key, time, k, 2));
                    due.add(days[time][key][j / 33]);
                }
            }
            questions.add(x -> x.runs(key, time));
            due.add(Integer.toString(count));
        }
        these(told + " runs", due, questions);
    }

    private boolean isRunWith(String value, int time, int key, int from, int to) {
        return isRun[time][key][from][to] && days[time][key][from].equals(value);
    }

    /** "There is a row for a key, a value, a period and two times just when ..". */
    private boolean isRow(int key, String value, int from, int to, int begin, int end) {
        for (int time = begin; time < (end == OPEN ? present + 1 : end); time++) {
            if (!isRunWith(value, time, key, from, to)) {
                return false;
            }
        }
        if (begin > 0 && isRunWith(value, begin - 1, key, from, to)) {
            return false;
        }
        return end == OPEN || !isRunWith(value, end, key, from, to);
    }

    /** "by their keys, those of one key by their begins, those of one key and begin by the first days". */
    private int rowsAreThese() {
        List<String> due = new ArrayList<>();
        for (int key = 0; key < 4; key++) {
            for (int begin = 0; begin <= present; begin++) {
                for (int j = 0; j < 32 * 33; j++) {
                    if (isRun[begin][key][j / 33][j % 33]) {
                        addRows(due, key, j / 33, j % 33, begin);
                    }
                }
            }
        }
        List<Seen.Question> questions = new ArrayList<>();
        for (int i = 0; i < due.size(); i++) {
            int n = i;
            questions.add(x -> x.row(n / 6, n % 6));
        }
        these(told + " rows", due, questions);
        Check.due(told + " rows()", due.size() / 6, () -> Seen.made(making).rows());
        return due.size() / 6;
    }

    private void addRows(List<String> due, int key, int from, int to, int begin) {
        String value = days[begin][key][from];
        for (int i = begin + 1; i <= present + 1; i++) {
            int end = i > present ? OPEN : i;
            if (isRow(key, value, from, to, begin, end)) {
                due.addAll(List.of(Integer.toString(key), value, Integer.toString(from), Integer.toString(to),
                        Integer.toString(begin), Integer.toString(end)));
            }
        }
    }

    /** "How often, in all, what the state has for a key on a day changed from one time to the next". */
    private void changesAreThese() {
        List<Seen.Question> questions = new ArrayList<>();
        List<String> due = new ArrayList<>();
        for (int i = 0; i < 128; i++) {
            int key = i / 32;
            int day = i % 32;
            int count = 0;
            for (int time = 1; time <= present; time++) {
                String before = days[time - 1][key][day];
                String behind = days[time][key][day];
                count += before == null ? (behind == null ? 0 : 1) : before.equals(behind) ? 0 : 1;
            }
            questions.add(x -> x.changes(key, day));
            due.add(Integer.toString(count));
        }
        these(told + " changes", due, questions);
    }
}
