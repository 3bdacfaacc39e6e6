import java.util.ArrayList;
import java.util.List;

/**
 * All that can be asked about a table, as one text. The table is made anew for each lot of questions, as an object is
 * promised to answer 512 calls and no more.
 */
final class Seen {
    /** Calls on a new object that bring it to where a test begins. */
    interface Making {
        void onto(TwoTimesTable x);
    }

    interface Question {
        long of(TwoTimesTable x);
    }

    private static final int LOT = 64;

    private Seen() {
    }

    static TwoTimesTable made(Making making) {
        TwoTimesTable x = new TwoTimesTable();
        making.onto(x);
        return x;
    }

    private static Making then(Making making, Question call) {
        return x -> {
            making.onto(x);
            Check.outcome(() -> call.of(x));
        };
    }

    /** The call is refused, and leaves the table, what waits and failed() as they were. */
    static void refused(String what, Class<?> want, Making making, Question call) {
        TwoTimesTable x = made(making);
        Check.fails(what, want, () -> call.of(x));
        unchanged(what, making, call);
    }

    /** Whatever the call answers, it leaves the table, what waits and failed() as they were. */
    static void unchanged(String what, Making making, Question call) {
        Making called = then(making, call);
        Check.same(what + " and then the table", table(making), table(called));
        Check.due(what + " and then failed()", made(making).failed(), () -> made(called).failed());
        Check.same(what + " and then commit()", committed(making), committed(called));
    }

    /** What commit() answers, and what the table has behind it. */
    static String committed(Making making) {
        TwoTimesTable x = made(making);
        String answer = Check.outcome(x::commit);
        return answer + " failed " + x.failed() + " " + table(then(making, TwoTimesTable::commit));
    }

    static String table(Making making) {
        return String.join(" ", answers(making, questions(made(making)))) + " ";
    }

    /** What tables that are made alike answer, each asked a lot of the questions. */
    static List<String> answers(Making making, List<Question> questions) {
        List<String> answers = new ArrayList<>();
        for (int first = 0; first < questions.size(); first += LOT) {
            TwoTimesTable x = made(making);
            for (Question q : questions.subList(first, Math.min(first + LOT, questions.size()))) {
                answers.add(Check.outcome(() -> q.of(x)));
            }
        }
        return answers;
    }

    private static List<Question> questions(TwoTimesTable x) {
        List<Question> all = new ArrayList<>();
        all.add(TwoTimesTable::clock);
        all.add(TwoTimesTable::rows);
        int parts = x.rows() * 6;
        for (int i = 0; i < parts; i++) {
            int n = i;
            all.add(y -> y.row(n / 6, n % 6));
        }
        int places = (x.clock() + 1) * 128;
        for (int i = 0; i < places; i++) {
            int n = i;
            all.add(y -> y.value(n / 32 % 4, n % 32, n / 128));
        }
        for (int i = 0; i < 128; i++) {
            int n = i;
            all.add(y -> y.changes(n / 32, n % 32));
        }
        return all;
    }
}
