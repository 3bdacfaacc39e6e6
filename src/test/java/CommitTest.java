/** Promises 5 to 7: queue, commit, failed. */
public final class CommitTest {
    public static void main(String[] args) {
        eightWait();
        orderCounts();
        allOrNone();
        failuresTellTheirStatement();
        noneWaitsBehindACommit();
        rowLimitInsideACommit();
        stateLeavesTheQueueAlone();
        Check.end("CommitTest");
    }

    private static void eightWait() {
        TwoTimesTable x = new TwoTimesTable();
        for (int i = 0; i < 8; i++) {
            int day = i;
            Check.due("queue", 1, () -> Check.of(x.queue(1, 0, day, day, day + 1)));
        }
        Check.due("the ninth", 0, () -> Check.of(x.queue(0, 0, 99, 20, 21)));
        Check.due("a wrong ninth", 0, () -> Check.of(x.queue(-1, 99, 99, 20, 0)));
        Check.due("nothing is done yet", 0, x::rows);
        Check.due("commit", 8, x::commit);
        Check.due("the ninth is not done", 8, () -> x.runs(0, 0));
        Check.due("the eighth is", 7, () -> x.value(0, 7, 0));
        Check.due("room again", 1, () -> Check.of(x.queue(0, 0, 99, 20, 21)));
    }

    private static void orderCounts() {
        TwoTimesTable x = new TwoTimesTable();
        x.queue(0, 1, 5, 0, 10);
        x.queue(3, 1, 5, 5, 10);
        x.queue(2, 1, 1, 9, 20);
        x.queue(4, 1, 0, 0, 2);
        x.queue(1, 1, 5, 0, 2);
        Check.due("the sum of all answers", 10 + 5 + 1 + 2 + 2, x::commit);
        Check.due("failed()", TwoTimesTable.NONE, x::failed);
        Check.due("runs", 3, () -> x.runs(1, 0));
        Check.due("sum", 5 * 5 + 4 * 10 + 1, () -> x.sum(1, 0, 32, 0));
        Check.due("rows", 3, x::rows);
    }

    private static void allOrNone() {
        TwoTimesTable x = new TwoTimesTable();
        x.state(0, 0, 1, 0, 8);
        x.state(0, 2, 2, 3, 6);
        x.tick();
        x.state(0, 1, 4, 0, 4);
        x.queue(0, 0, 9, 4, 12);
        x.queue(4, 2, 0, 4, 5);
        x.queue(3, 1, 1, 0, 32);
        x.queue(0, 3, 1, 0, 32);
        x.queue(1, 3, 1, 31, 32);
        x.queue(0, 3, 2, 0, 1);
        Check.fails("commit", Check.STATE, x::commit);
        Check.due("failed()", 4, x::failed);
        Check.due("key 0", 8, () -> x.sum(0, 0, 32, 1));
        Check.due("key 1", 16, () -> x.sum(1, 0, 32, 1));
        Check.due("key 2", 6, () -> x.sum(2, 0, 32, 1));
        Check.due("key 3", 0, () -> x.runs(3, 1));
        Check.due("rows", 3, x::rows);
        Check.due("key 0 is open", TwoTimesTable.NONE, () -> x.row(0, 5));
        Check.due("key 1 begins now", 1, () -> x.row(1, 4));
        Check.due("key 2 is open", TwoTimesTable.NONE, () -> x.row(2, 5));
        Check.due("no changes", 0, () -> x.changes(0, 5));
        Check.due("none waits", 0, x::commit);
        Check.due("failed() of the latest", TwoTimesTable.NONE, x::failed);
    }

    private static void failuresTellTheirStatement() {
        TwoTimesTable x = new TwoTimesTable();
        x.queue(0, 0, 1, 0, 1);
        x.queue(0, 0, 1, 0, 33);
        x.queue(2, 1, 1, 0, 1);
        Check.fails("no period", Check.ARGUMENT, x::commit);
        Check.due("failed()", 1, x::failed);
        x.queue(2, 1, 1, 0, 1);
        x.queue(0, 0, 1, 0, 33);
        Check.fails("nothing to change", Check.ELEMENT, x::commit);
        Check.due("failed()", 0, x::failed);
        for (int i = 0; i < 7; i++) {
            x.queue(0, 0, i, 0, 32);
        }
        x.queue(1, 0, 7, 4, 5);
        Check.fails("meets a value put in by the same commit", Check.STATE, x::commit);
        Check.due("failed()", 7, x::failed);
        Check.fails("a statement alone fails", Check.ELEMENT, () -> x.state(4, 0, 0, 0, 32));
        Check.due("and leaves failed()", 7, x::failed);
        x.state(0, 0, 1, 0, 32);
        Check.due("as does one that holds", 7, x::failed);
        x.queue(0, 0, 2, 0, 32);
        Check.due("as does one that waits", 7, x::failed);
        Check.due("commit", 32, x::commit);
        Check.due("failed()", TwoTimesTable.NONE, x::failed);
    }

    private static void noneWaitsBehindACommit() {
        TwoTimesTable x = new TwoTimesTable();
        for (int i = 0; i < 8; i++) {
            x.queue(i == 2 ? 9 : 0, 0, 1, i, i + 1);
        }
        Check.fails("commit", Check.ARGUMENT, x::commit);
        for (int i = 0; i < 8; i++) {
            Check.due("room for eight", 1, () -> Check.of(x.queue(0, 1, 1, 0, 1)));
        }
        Check.due("no room for nine", 0, () -> Check.of(x.queue(0, 1, 1, 0, 1)));
        Check.due("only the new ones are done", 1, x::commit);
        Check.due("key 0", 0, () -> x.runs(0, 0));
    }

    private static void rowLimitInsideACommit() {
        TwoTimesTable x = new TwoTimesTable();
        for (int key = 0; key < 4; key++) {
            for (int day = 0; day < 32; day++) {
                x.state(0, key, day, day, day + 1);
            }
        }
        x.tick();
        for (int day = 0; day < 22; day++) {
            x.state(0, 2, 50, day, day + 1);
            x.state(0, 2, 50 + day, day, day + 1);
        }
        Check.due("full", 150, x::rows);
        x.queue(3, 0, 7, 3, 4);
        x.queue(3, 0, -7, 3, 4);
        Check.fails("each statement has to keep the limit", Check.STATE, x::commit);
        Check.due("failed()", 0, x::failed);
        x.queue(0, 2, 0, 0, 1);
        x.queue(3, 0, 7, 3, 4);
        Check.due("room made first", 2, x::commit);
        Check.due("full", 150, x::rows);
        x.queue(4, 3, 0, 0, 32);
        x.queue(0, 3, 1, 0, 32);
        Check.fails("ended rows count", Check.STATE, x::commit);
        Check.due("failed()", 1, x::failed);
        Check.due("put back", 32, () -> x.runs(3, 1));
        Check.due("full", 150, x::rows);
    }

    private static void stateLeavesTheQueueAlone() {
        TwoTimesTable x = new TwoTimesTable();
        x.queue(1, 0, 1, 0, 1);
        x.state(0, 0, 2, 0, 1);
        Check.due("what waits is not done", 2, () -> x.value(0, 0, 0));
        Check.fails("it is looked at when it is done", Check.STATE, x::commit);
        Check.due("failed()", 0, x::failed);
        x.queue(2, 0, 1, 0, 1);
        x.tick();
        Check.due("done at the present time", 1, x::commit);
        Check.due("not at that of queue()", 2, () -> x.value(0, 0, 0));
    }
}
