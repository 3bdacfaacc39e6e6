/** Promises 1 to 3: a new object, tick, clock. */
public final class ClockTest {
    public static void main(String[] args) {
        newObjectIsEmpty();
        objectsAreApart();
        clockGoesOnToItsEnd();
        newTimeStartsAsTheOneBefore();
        Check.end("ClockTest");
    }

    private static void newObjectIsEmpty() {
        TwoTimesTable x = new TwoTimesTable();
        Check.due("NONE", -1, () -> TwoTimesTable.NONE);
        Check.due("clock()", 0, x::clock);
        Check.due("rows()", 0, x::rows);
        Check.due("failed()", TwoTimesTable.NONE, x::failed);
        for (int key = 0; key < 4; key++) {
            int k = key;
            Check.due("runs", 0, () -> x.runs(k, 0));
            Check.due("sum", 0, () -> x.sum(k, 0, 32, 0));
            for (int day = 0; day < 32; day++) {
                int d = day;
                Check.due("has", 0, () -> Check.of(x.has(k, d, 0)));
                Check.due("changes", 0, () -> x.changes(k, d));
            }
        }
        Check.due("commit() with none waiting", 0, x::commit);
        for (int i = 0; i < 8; i++) {
            Check.due("queue has room for eight", 1, () -> Check.of(x.queue(0, 0, 0, 0, 1)));
        }
        Check.due("queue is full", 0, () -> Check.of(x.queue(0, 0, 0, 0, 1)));
    }

    private static void objectsAreApart() {
        TwoTimesTable x = new TwoTimesTable();
        TwoTimesTable y = new TwoTimesTable();
        x.tick();
        x.state(0, 1, 5, 0, 3);
        x.queue(0, 0, 1, 0, 1);
        Check.due("the other clock", 0, y::clock);
        Check.due("the other rows", 0, y::rows);
        Check.due("the other queue", 0, y::commit);
        Check.due("the other has", 0, () -> Check.of(y.has(1, 0, 0)));
    }

    private static void clockGoesOnToItsEnd() {
        TwoTimesTable x = new TwoTimesTable();
        for (int time = 1; time <= 39; time++) {
            Check.due("tick()", time, x::tick);
            Check.due("clock()", time, x::clock);
        }
        x.state(0, 0, 7, 0, 32);
        for (int i = 0; i < 3; i++) {
            Check.fails("tick() at 39", Check.STATE, x::tick);
            Check.due("clock() behind it", 39, x::clock);
        }
        Check.due("the state stays", 7, () -> x.value(0, 31, 39));
        Check.due("statements go on", 32, () -> x.state(0, 0, 8, 0, 32));
        Check.due("at the last time", 8, () -> x.value(0, 31, 39));
        Check.due("not before", 0, () -> Check.of(x.has(0, 31, 38)));
        Check.due("row's begin", 39, () -> x.row(0, 4));
    }

    private static void newTimeStartsAsTheOneBefore() {
        TwoTimesTable x = new TwoTimesTable();
        x.state(0, 3, 4, 2, 5);
        x.queue(0, 3, 9, 0, 1);
        x.tick();
        Check.due("carried", 4, () -> x.value(3, 2, 1));
        Check.due("carried nothing", 0, () -> Check.of(x.has(3, 5, 1)));
        Check.due("one open row", 1, x::rows);
        Check.due("open", TwoTimesTable.NONE, () -> x.row(0, 5));
        Check.due("tick changes nothing", 0, () -> x.changes(3, 2));
        Check.due("what waits still waits", 1, x::commit);
        Check.due("and is done at the new time", 0, () -> Check.of(x.has(3, 0, 0)));
        x.state(0, 3, 6, 2, 5);
        Check.due("the time before keeps its state", 4, () -> x.value(3, 4, 0));
        Check.due("the present has its own", 6, () -> x.value(3, 4, 1));
    }
}
