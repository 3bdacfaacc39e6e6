/** Promises 5 to 7, queue, commit and failed: each sentence at its bounds. */
public final class CommitBoundsTest {
    private static final int NONE = TwoTimesTable.NONE;

    public static void main(String[] args) {
        falseWhenEightWait();
        theRefusedOneDoesNotWait();
        whatWaitsIsNotLookedAt();
        whatWaitsIsNotDone();
        noneWaits();
        oneWaits();
        allEightAreDone();
        inTheirOrder();
        allOrNone();
        failsAsThatOne();
        theFirstThatFailsCounts();
        noneWaitsAnyMoreInAnyCase();
        rowsInsideACommit();
        doneAtThePresentTime();
        theNumberOfTheOneThatFailed();
        failedOfTheLatestCommit();
        Check.end("CommitBoundsTest");
    }

    private static void queueMany(TwoTimesTable x, int count) {
        for (int i = 0; i < count; i++) {
            x.queue(0, 0, i, i, i + 1);
        }
    }

    /** "False when eight wait": the seventh, the eighth, the ninth and the tenth. */
    private static void falseWhenEightWait() {
        TwoTimesTable x = Seen.made(y -> queueMany(y, 6));
        Check.due("the seventh", 1, () -> Check.of(x.queue(0, 1, 1, 0, 1)));
        Check.due("the eighth", 1, () -> Check.of(x.queue(0, 1, 1, 1, 2)));
        Check.due("the ninth", 0, () -> Check.of(x.queue(0, 1, 1, 2, 3)));
        Check.due("the tenth", 0, () -> Check.of(x.queue(0, 1, 1, 3, 4)));
        Check.due("a tick makes no room", 1, x::tick);
        Check.due("still eight", 0, () -> Check.of(x.queue(0, 1, 1, 2, 3)));
        Check.due("a statement makes no room", 1, () -> x.state(0, 2, 1, 0, 1));
        Check.due("still eight", 0, () -> Check.of(x.queue(0, 1, 1, 2, 3)));
        Check.due("the eight", 8, x::commit);
        Check.due("room again", 1, () -> Check.of(x.queue(0, 1, 1, 2, 3)));
    }

    /** "False when eight wait": it leaves those that wait, and what the next commit() does, as they were. */
    private static void theRefusedOneDoesNotWait() {
        Seen.Making eight = x -> queueMany(x, 8);
        Check.due("refused", 0, () -> Check.of(Seen.made(eight).queue(0, 3, 1, 0, 32)));
        Seen.unchanged("a ninth", eight, x -> Check.of(x.queue(0, 3, 1, 0, 32)));
        Seen.unchanged("a ninth that would fail", eight, x -> Check.of(x.queue(2, 3, 1, 0, 32)));
        Seen.unchanged("a ninth that is none", eight, x -> Check.of(x.queue(-1, -1, -1, -1, -1)));
    }

    /** "it is not looked at": what could not be done waits as well, and counts among the eight. */
    private static void whatWaitsIsNotLookedAt() {
        int max = Integer.MAX_VALUE;
        int min = Integer.MIN_VALUE;
        TwoTimesTable x = new TwoTimesTable();
        Check.due("no kind", 1, () -> Check.of(x.queue(-1, 0, 0, 0, 1)));
        Check.due("no kind", 1, () -> Check.of(x.queue(5, 0, 0, 0, 1)));
        Check.due("no key", 1, () -> Check.of(x.queue(0, 4, 0, 0, 1)));
        Check.due("no period", 1, () -> Check.of(x.queue(0, 0, 0, 0, 33)));
        Check.due("an empty one", 1, () -> Check.of(x.queue(0, 0, 0, 7, 7)));
        Check.due("nothing to change", 1, () -> Check.of(x.queue(4, 0, 0, 0, 32)));
        Check.due("greatest", 1, () -> Check.of(x.queue(max, max, max, max, max)));
        Check.due("least", 1, () -> Check.of(x.queue(min, min, min, min, min)));
        Check.due("the ninth", 0, () -> Check.of(x.queue(0, 0, 0, 0, 1)));
        Check.fails("looked at now", Check.ARGUMENT, x::commit);
        Check.due("the first one", 0, x::failed);
        TwoTimesTable y = Seen.made(z -> Tables.rows(z, 150));
        Check.due("when full", 1, () -> Check.of(y.queue(0, 1, 0, 0, 1)));
        Check.due("on a value", 1, () -> Check.of(y.queue(1, 0, 0, 0, 1)));
        Check.fails("looked at now", Check.STATE, y::commit);
    }

    /** "A statement waits": the table, and failed(), are as they were. */
    private static void whatWaitsIsNotDone() {
        for (int kind = 0; kind <= 4; kind++) {
            int k = kind;
            Seen.Making filled = x -> {
                x.state(0, 2, 5, 3, 9);
                x.tick();
            };
            Seen.Making waits = x -> {
                filled.onto(x);
                x.queue(k, 2, 6, k == 1 ? 10 : 0, 32);
            };
            Check.same("kind " + kind + " waits", Seen.table(filled), Seen.table(waits));
            Check.holds("and is done then", !Seen.committed(waits).endsWith(" " + Seen.table(filled)));
        }
    }

    /** commit() when none waits: it answers the sum of none, and changes nothing. */
    private static void noneWaits() {
        Check.due("a new object", 0, () -> new TwoTimesTable().commit());
        Seen.Making making = x -> {
            Tables.rows(x, 40);
            x.state(0, 3, 1, 0, 32);
        };
        Check.due("a table", 0, () -> Seen.made(making).commit());
        Seen.unchanged("no statement", making, TwoTimesTable::commit);
        Seen.unchanged("when full", x -> Tables.rows(x, 150), TwoTimesTable::commit);
    }

    /** One that waits is done as state() would do it. */
    private static void oneWaits() {
        for (int kind = 0; kind <= 4; kind++) {
            int k = kind;
            TwoTimesTable x = new TwoTimesTable();
            TwoTimesTable y = new TwoTimesTable();
            x.state(0, 1, 3, 5, 20);
            y.state(0, 1, 3, 5, 20);
            x.queue(kind, 1, 9, kind == 1 ? 20 : 10, 28);
            String due = Check.outcome(() -> y.state(k, 1, 9, k == 1 ? 20 : 10, 28));
            Check.same("as by state()", due, Check.outcome(x::commit));
            Check.due("its sum", y.sum(1, 0, 32, 0), () -> x.sum(1, 0, 32, 0));
            Check.due("its rows", y.rows(), x::rows);
        }
    }

    /** "Does all statements that wait", "Answers the sum of their answers": eight of them, up to the greatest sum. */
    private static void allEightAreDone() {
        TwoTimesTable x = Seen.made(y -> queueMany(y, 8));
        Check.due("eight days", 8, x::commit);
        for (int day = 0; day < 8; day++) {
            int d = day;
            Check.due("day " + day, day, () -> x.value(0, d, 0));
        }
        for (int i = 0; i < 8; i++) {
            x.queue(0, 3, i, 0, 32);
        }
        Check.due("the greatest sum", 256, x::commit);
        for (int i = 0; i < 8; i++) {
            x.queue(3, 3, 0, 0, 32);
        }
        Check.due("the least sum", 0, x::commit);
        Check.due("the last one's value", 7, () -> x.value(3, 31, 0));
    }

    /** "in their order": each meets what those before it left. */
    private static void inTheirOrder() {
        TwoTimesTable x = new TwoTimesTable();
        x.queue(1, 0, 1, 0, 4);
        x.queue(2, 0, 2, 0, 4);
        x.queue(3, 0, 3, 0, 4);
        x.queue(4, 0, 0, 0, 4);
        x.queue(1, 0, 9, 0, 4);
        Check.due("insert, update, add, delete, insert", 20, x::commit);
        Check.due("the last one's value", 9, () -> x.value(0, 3, 0));
        x.queue(4, 0, 0, 0, 4);
        x.queue(3, 0, 1, 0, 4);
        Check.fails("delete, add", Check.ELEMENT, x::commit);
        x.queue(3, 0, 1, 0, 4);
        x.queue(4, 0, 0, 0, 4);
        Check.due("add, delete", 8, x::commit);
        x.queue(0, 0, 1, 0, 1);
        x.queue(1, 0, 1, 0, 1);
        Check.fails("put, insert", Check.STATE, x::commit);
        x.queue(1, 0, 1, 0, 1);
        x.queue(0, 0, 2, 0, 1);
        Check.due("insert, put", 2, x::commit);
    }

    /** "when one fails, nothing is changed at all": each of eight, and each way to fail. */
    private static void allOrNone() {
        Seen.Making making = x -> {
            Tables.rows(x, 100);
            Tables.fillAll(x);
            x.tick();
            x.state(4, 2, 0, 8, 9);
        };
        int[][] failing = {{5, 0, 1, 0, 1}, {0, 4, 1, 0, 1}, {0, 0, 1, 5, 5}, {4, 2, 1, 8, 9}, {1, 2, 1, 8, 10}};
        for (int[] w : failing) {
            for (int number = 0; number < 8; number++) {
                int n = number;
                nothingChanges(making, x -> {
                    for (int i = 0; i < 8; i++) {
                        if (i == n) {
                            x.queue(w[0], w[1], w[2], w[3], w[4]);
                        } else {
                            x.queue(i % 4 == 2 ? 4 : 0, i % 4, 50 + i, 10 + i, i % 4 == 2 ? 11 + i : 20);
                        }
                    }
                }, number);
            }
        }
    }

    private static void nothingChanges(Seen.Making making, Seen.Making waiting, int number) {
        Seen.Making failed = x -> {
            making.onto(x);
            waiting.onto(x);
            Check.holds("it fails", Check.outcome(x::commit).startsWith("throws."));
        };
        Check.same("number " + number + " failed", Seen.table(making), Seen.table(failed));
        Check.due("failed()", number, () -> Seen.made(failed).failed());
        Check.same("none waits", "0 failed -1 " + Seen.table(making), Seen.committed(failed));
    }

    /** "commit() fails as this one": with each of the three exceptions. */
    private static void failsAsThatOne() {
        failsAs("no kind", Check.ARGUMENT, 5, 0, 0, 1);
        failsAs("no key", Check.ARGUMENT, 0, -1, 0, 1);
        failsAs("no period", Check.ARGUMENT, 0, 0, -1, 1);
        failsAs("update of nothing", Check.ELEMENT, 2, 1, 0, 32);
        failsAs("add to nothing", Check.ELEMENT, 3, 1, 0, 32);
        failsAs("delete of nothing", Check.ELEMENT, 4, 1, 0, 32);
        failsAs("insert on a value", Check.STATE, 1, 0, 0, 32);
    }

    private static void failsAs(String what, Class<?> want, int kind, int key, int from, int to) {
        TwoTimesTable x = new TwoTimesTable();
        x.state(0, 0, 5, 31, 32);
        Check.fails(what, want, () -> x.state(kind, key, 1, from, to));
        x.queue(0, 0, 6, 31, 32);
        x.queue(kind, key, 1, from, to);
        Check.fails(what + " in a commit", want, x::commit);
        Check.due(what + " and failed()", 1, x::failed);
        Check.due(what + " and the value", 5, () -> x.value(0, 31, 0));
    }

    /** Of several that would fail it is the first whose exception and number are told. */
    private static void theFirstThatFailsCounts() {
        int[][] failing = {{9, 0, 0, 0, 1}, {4, 1, 0, 0, 1}, {1, 0, 0, 0, 1}};
        Class<?>[] due = {Check.ARGUMENT, Check.ELEMENT, Check.STATE};
        for (int first = 0; first < 3; first++) {
            TwoTimesTable x = new TwoTimesTable();
            x.state(0, 0, 5, 0, 1);
            x.queue(0, 0, 6, 0, 1);
            for (int i = 0; i < 3; i++) {
                int[] w = failing[(first + i) % 3];
                x.queue(w[0], w[1], w[2], w[3], w[4]);
            }
            Check.fails("the first of three", due[first], x::commit);
            Check.due("failed()", 1, x::failed);
        }
    }

    /** "In any case none waits any more": then eight have room, and no more than these are done. */
    private static void noneWaitsAnyMoreInAnyCase() {
        int[] kinds = {0, 1, 2, 5};
        for (int kind : kinds) {
            for (int count = 1; count <= 8; count++) {
                TwoTimesTable x = new TwoTimesTable();
                queueMany(x, count - 1);
                x.queue(kind, 1, 1, 0, 32);
                Check.outcome(x::commit);
                for (int i = 0; i < 8; i++) {
                    Check.due("room", 1, () -> Check.of(x.queue(0, 3, 1, 0, 1)));
                }
                Check.due("no room", 0, () -> Check.of(x.queue(0, 3, 1, 0, 1)));
                Check.due("one day, once", 1, x::commit);
                Check.due("of those that failed nothing is left", kind < 2 ? count - 1 : 0, () -> x.runs(0, 0));
                Check.due("and again none waits", 0, x::commit);
            }
        }
    }

    /** The limit of 150 rows holds behind each statement of a commit(), and what was made of it is put back. */
    private static void rowsInsideACommit() {
        Seen.Making making = x -> Tables.rows(x, 148);
        TwoTimesTable x = Seen.made(making);
        x.queue(1, 1, 0, 0, 1);
        x.queue(1, 2, 0, 0, 1);
        Check.due("149 and 150", 2, x::commit);
        Check.due("full", 150, x::rows);
        x.queue(0, 1, 1, 0, 1);
        x.queue(1, 3, 0, 0, 1);
        Check.fails("150 and 151", Check.STATE, x::commit);
        Check.due("the second", 1, x::failed);
        Check.due("still full", 150, x::rows);
        Check.due("and as it was", 0, () -> x.value(1, 0, x.clock()));
        x.queue(4, 2, 0, 0, 1);
        x.queue(1, 3, 0, 0, 1);
        Check.due("149 and 150 again", 2, x::commit);
        x.queue(1, 2, 0, 0, 1);
        x.queue(4, 3, 0, 0, 1);
        Check.fails("151, though 150 would be behind it", Check.STATE, x::commit);
        Check.due("the first", 0, x::failed);
        nothingChanges(making, y -> {
            y.queue(1, 1, 0, 0, 1);
            y.queue(1, 2, 0, 0, 1);
            y.queue(1, 3, 0, 0, 1);
        }, 2);
        nothingChanges(making, y -> {
            y.queue(4, 0, 0, 0, 32);
            y.queue(0, 1, 0, 0, 1);
            y.queue(0, 0, 0, 0, 32);
            y.queue(3, 0, 1, 5, 6);
        }, 3);
    }

    /** What waits is done at the time of commit(), whatever time it was when it was told to wait. */
    private static void doneAtThePresentTime() {
        TwoTimesTable x = new TwoTimesTable();
        x.queue(0, 0, 1, 0, 1);
        Tables.tickTo(x, 39);
        x.queue(0, 0, 2, 1, 2);
        Check.due("at the last time", 2, x::commit);
        Check.due("not before", 0, () -> x.runs(0, 38));
        Check.due("both at once", 2, () -> x.runs(0, 39));
        Check.due("begin", 39, () -> x.row(0, 4));
        x.queue(3, 0, 1, 0, 32);
        x.queue(1, 0, 1, 0, 32);
        Check.fails("at the last time", Check.STATE, x::commit);
        Check.due("put back", 3, () -> x.sum(0, 0, 32, 39));
    }

    /** "The number (from 0) of the statement that failed in the latest commit()": 0 to 7. */
    private static void theNumberOfTheOneThatFailed() {
        for (int number = 0; number < 8; number++) {
            for (int behind = 0; number + behind < 8; behind++) {
                TwoTimesTable x = new TwoTimesTable();
                queueMany(x, number);
                x.queue(4, 3, 0, 0, 32);
                queueMany(x, behind);
                Check.fails("number " + number, Check.ELEMENT, x::commit);
                Check.due("failed()", number, x::failed);
                Check.due("failed() again", number, x::failed);
            }
        }
    }

    /** "NONE when none did or there was no commit()". */
    private static void failedOfTheLatestCommit() {
        TwoTimesTable x = new TwoTimesTable();
        Check.due("no commit()", NONE, x::failed);
        Check.fails("a statement that fails is no commit()", Check.ELEMENT, () -> x.state(4, 0, 0, 0, 1));
        Check.due("no commit()", NONE, x::failed);
        x.queue(4, 0, 0, 0, 1);
        Check.due("no commit() yet", NONE, x::failed);
        Check.fails("commit()", Check.ELEMENT, x::commit);
        Check.due("the first one", 0, x::failed);
        x.tick();
        x.state(0, 0, 0, 0, 1);
        x.queue(0, 0, 1, 0, 1);
        Check.due("what is no commit() leaves it", 0, x::failed);
        Check.due("one that holds", 1, x::commit);
        Check.due("none did", NONE, x::failed);
        x.queue(0, 0, 1, 0, 1);
        x.queue(0, 0, 1, 0, 33);
        Check.fails("the second one", Check.ARGUMENT, x::commit);
        Check.due("the second one", 1, x::failed);
        Check.due("one of none", 0, x::commit);
        Check.due("none did", NONE, x::failed);
    }
}
