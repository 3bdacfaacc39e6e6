/** Promise 4: state, with the five kinds, the failures and their order, and the limit on rows. */
public final class StatementTest {
    private static final int[] WRONG = {-1, Integer.MIN_VALUE, Integer.MAX_VALUE};

    public static void main(String[] args) {
        put();
        insert();
        update();
        add();
        delete();
        wrongStatements();
        failuresAreLookedAtInOrder();
        rowLimit();
        rowLimitCountsWhatEnded();
        presentOnly();
        firstAndLastDay();
        failureAtTheLastTime();
        Check.end("StatementTest");
    }

    private static void put() {
        TwoTimesTable x = new TwoTimesTable();
        Check.due("put on nothing", 4, () -> x.state(0, 0, 0, 3, 7));
        Check.due("a value of 0 is a value", 1, () -> Check.of(x.has(0, 3, 0)));
        Check.due("nothing before", 0, () -> Check.of(x.has(0, 2, 0)));
        Check.due("nothing behind", 0, () -> Check.of(x.has(0, 7, 0)));
        Check.due("the same again", 0, () -> x.state(0, 0, 0, 3, 7));
        Check.due("partly the same", 2, () -> x.state(0, 0, 0, 2, 8));
        Check.due("another value", 6, () -> x.state(0, 0, -1, 2, 8));
        Check.due("all days", 32, () -> x.state(0, 3, Integer.MIN_VALUE, 0, 32));
        Check.due("first day", 1, () -> x.state(0, 3, 1, 0, 1));
        Check.due("last day", 1, () -> x.state(0, 3, 1, 31, 32));
        Check.due("kept", Integer.MIN_VALUE, () -> x.value(3, 1, 0));
        Check.due("other keys keep nothing", 0, () -> x.runs(1, 0) + x.runs(2, 0));
    }

    private static void insert() {
        TwoTimesTable x = new TwoTimesTable();
        Check.due("insert", 5, () -> x.state(1, 2, 3, 10, 15));
        Check.fails("over the end", Check.STATE, () -> x.state(1, 2, 3, 14, 16));
        Check.fails("over the beginning", Check.STATE, () -> x.state(1, 2, 3, 9, 11));
        Check.fails("over all", Check.STATE, () -> x.state(1, 2, 3, 0, 32));
        Check.due("failed ones change nothing", 5, () -> x.runs(2, 0) * (x.run(2, 0, 0, 1) - x.run(2, 0, 0, 0)));
        Check.due("beside it, before", 1, () -> x.state(1, 2, 4, 9, 10));
        Check.due("beside it, behind", 1, () -> x.state(1, 2, 4, 15, 16));
        Check.due("another key", 32, () -> x.state(1, 1, 3, 0, 32));
        x.state(4, 2, 0, 12, 13);
        Check.due("into a gap", 1, () -> x.state(1, 2, 3, 12, 13));
    }

    private static void update() {
        TwoTimesTable x = new TwoTimesTable();
        x.state(0, 0, 1, 2, 4);
        x.state(0, 0, 2, 6, 8);
        Check.due("only where there is a value", 2, () -> x.state(2, 0, 2, 0, 32));
        Check.due("not in the gap", 0, () -> Check.of(x.has(0, 4, 0)));
        Check.due("not before", 0, () -> Check.of(x.has(0, 1, 0)));
        Check.due("to the same", 0, () -> x.state(2, 0, 2, 0, 32));
        Check.due("the edge of a period", 1, () -> x.state(2, 0, 9, 3, 6));
        Check.due("inside it", 9, () -> x.value(0, 3, 0));
        Check.due("outside it", 2, () -> x.value(0, 2, 0));
        Check.fails("on nothing", Check.ELEMENT, () -> x.state(2, 0, 9, 4, 6));
        Check.fails("on a key with nothing", Check.ELEMENT, () -> x.state(2, 1, 9, 0, 32));
        Check.fails("on nothing behind", Check.ELEMENT, () -> x.state(2, 0, 9, 8, 32));
    }

    private static void add() {
        TwoTimesTable x = new TwoTimesTable();
        x.state(0, 0, Integer.MAX_VALUE, 0, 2);
        x.state(0, 0, -1, 5, 6);
        Check.due("added", 3, () -> x.state(3, 0, 1, 0, 32));
        Check.due("ints wrap", Integer.MIN_VALUE, () -> x.value(0, 1, 0));
        Check.due("to 0", 0, () -> x.value(0, 5, 0));
        Check.due("0 is still a value", 1, () -> Check.of(x.has(0, 5, 0)));
        Check.due("nothing stays nothing", 0, () -> Check.of(x.has(0, 3, 0)));
        Check.due("adding 0", 0, () -> x.state(3, 0, 0, 0, 32));
        Check.due("wraps back", 2, () -> x.state(3, 0, Integer.MIN_VALUE, 0, 5));
        Check.due("to 0 as well", 0, () -> x.value(0, 0, 0));
        Check.fails("on nothing", Check.ELEMENT, () -> x.state(3, 0, 1, 2, 5));
        Check.fails("adding 0 to nothing", Check.ELEMENT, () -> x.state(3, 0, 0, 2, 5));
    }

    private static void delete() {
        TwoTimesTable x = new TwoTimesTable();
        x.state(0, 0, 5, 4, 12);
        Check.due("inside", 2, () -> x.state(4, 0, 77, 6, 8));
        Check.due("two runs are left", 2, () -> x.runs(0, 0));
        Check.due("only what is there counts", 4, () -> x.state(4, 0, 5, 5, 11));
        Check.due("left", 10, () -> x.sum(0, 0, 32, 0));
        Check.fails("nothing there", Check.ELEMENT, () -> x.state(4, 0, 5, 5, 11));
        Check.due("the rest", 2, () -> x.state(4, 0, 5, 0, 32));
        Check.fails("none is left", Check.ELEMENT, () -> x.state(4, 0, 5, 0, 32));
        Check.due("put in again", 1, () -> x.state(1, 0, 5, 4, 5));
        Check.due("the old value is gone", 1, () -> x.runs(0, 0));
    }

    private static void wrongStatements() {
        TwoTimesTable x = new TwoTimesTable();
        x.state(0, 0, 1, 0, 32);
        x.state(0, 3, 1, 0, 32);
        for (int wrong : WRONG) {
            Check.fails("kind", Check.ARGUMENT, () -> x.state(wrong, 0, 1, 0, 32));
            Check.fails("key", Check.ARGUMENT, () -> x.state(0, wrong, 1, 0, 32));
            Check.fails("from", Check.ARGUMENT, () -> x.state(0, 0, 1, wrong, 32));
            Check.fails("to", Check.ARGUMENT, () -> x.state(0, 0, 1, 0, wrong));
        }
        Check.fails("kind 5", Check.ARGUMENT, () -> x.state(5, 0, 1, 0, 32));
        for (int kind = 0; kind < 5; kind++) {
            int k = kind;
            Check.fails("key 4", Check.ARGUMENT, () -> x.state(k, 4, 2, 0, 32));
            Check.fails("to 33", Check.ARGUMENT, () -> x.state(k, 0, 2, 0, 33));
            Check.fails("empty", Check.ARGUMENT, () -> x.state(k, 0, 2, 5, 5));
            Check.fails("empty at the end", Check.ARGUMENT, () -> x.state(k, 0, 2, 32, 32));
            Check.fails("empty at the beginning", Check.ARGUMENT, () -> x.state(k, 0, 2, 0, 0));
            Check.fails("reversed", Check.ARGUMENT, () -> x.state(k, 0, 2, 6, 5));
        }
        Check.due("nothing changed", 32, () -> x.sum(0, 0, 32, 0));
        Check.due("nothing changed", 2, x::rows);
    }

    private static void failuresAreLookedAtInOrder() {
        TwoTimesTable x = new TwoTimesTable();
        Check.fails("no period before nothing to change", Check.ARGUMENT, () -> x.state(4, 0, 1, 3, 3));
        x.state(0, 0, 1, 0, 4);
        Check.fails("no period before a meeting", Check.ARGUMENT, () -> x.state(1, 0, 1, 0, 33));
        fillTo(x, 150);
        Check.due("full", 150, x::rows);
        Check.fails("nothing to change before the limit", Check.ELEMENT, () -> x.state(2, 3, 1, 0, 32));
        Check.fails("no kind before the limit", Check.ARGUMENT, () -> x.state(9, 3, 1, 0, 32));
    }

    /** Single days of keys 0 to 2 by turns with two values, at as many times as it takes. */
    private static void fillTo(TwoTimesTable x, int rows) {
        for (int i = 0; x.rows() < rows && i < 400; i++) {
            x.state(0, i % 3, x.clock() * 2 + i / 3 % 2, 2 * (i / 3 % 16), 2 * (i / 3 % 16) + 1);
            if (i % 48 == 47) {
                x.tick();
            }
        }
    }

    private static void rowLimit() {
        TwoTimesTable x = new TwoTimesTable();
        for (int key = 0; key < 4; key++) {
            for (int day = 0; day < 32; day++) {
                x.state(0, key, day, day, day + 1);
            }
        }
        x.tick();
        Check.due("128 rows", 128, x::rows);
        for (int day = 0; day < 22; day++) {
            int d = day;
            Check.due("one row more", 1, () -> x.state(3, 0, 100, d, d + 1));
        }
        Check.due("150 rows", 150, x::rows);
        Check.fails("put", Check.STATE, () -> x.state(0, 0, -5, 30, 31));
        Check.fails("update", Check.STATE, () -> x.state(2, 1, -5, 30, 31));
        Check.fails("add", Check.STATE, () -> x.state(3, 2, -5, 30, 31));
        Check.due("nothing changed", 30, () -> x.value(0, 30, 1));
        Check.due("nothing changed", 30, () -> x.value(2, 30, 1));
        Check.due("nothing changed", 150, x::rows);
        Check.due("a delete makes no row", 1, () -> x.state(4, 1, 0, 30, 31));
        Check.fails("insert", Check.STATE, () -> x.state(1, 1, -5, 30, 31));
        Check.due("insert what was there", 1, () -> x.state(1, 1, 30, 30, 31));
        Check.due("no change is no row", 0, () -> x.state(3, 1, 0, 0, 32));
        Check.due("one changed back", 1, () -> x.state(3, 0, -100, 21, 22));
        Check.due("makes room", 149, x::rows);
        Check.fails("for not two", Check.STATE, () -> x.state(3, 3, 1000, 4, 6));
        Check.due("for one", 2, () -> x.state(0, 3, 1000, 4, 6));
        Check.due("full again", 150, x::rows);
        Check.due("the last one's place", 4, () -> x.row(149, 2));
    }

    private static void rowLimitCountsWhatEnded() {
        TwoTimesTable x = new TwoTimesTable();
        for (int time = 0; time < 37; time++) {
            for (int key = 0; key < 4; key++) {
                x.state(0, key, time, 0, 32);
            }
            x.tick();
        }
        Check.due("148 rows", 148, x::rows);
        x.state(0, 0, 99, 0, 32);
        Check.due("149", 149, x::rows);
        x.state(0, 1, 99, 0, 32);
        Check.due("150", 150, x::rows);
        Check.fails("151", Check.STATE, () -> x.state(0, 2, 99, 0, 32));
        Check.due("not changed", 36, () -> x.value(2, 0, 37));
        Check.due("taken out", 32, () -> x.state(4, 2, 0, 0, 32));
        x.tick();
        Check.fails("what ended still counts", Check.STATE, () -> x.state(0, 2, 36, 0, 32));
        Check.due("not changed", 0, () -> x.runs(2, 38));
    }

    private static void presentOnly() {
        TwoTimesTable x = new TwoTimesTable();
        x.state(0, 0, 1, 0, 10);
        x.tick();
        x.state(4, 0, 0, 0, 10);
        x.tick();
        x.state(1, 0, 2, 5, 15);
        Check.due("time 0", 10, () -> x.sum(0, 0, 32, 0));
        Check.due("time 1", 0, () -> x.sum(0, 0, 32, 1));
        Check.due("time 2", 20, () -> x.sum(0, 0, 32, 2));
    }

    /** A value on one edge day alone is met by just the periods that reach it. */
    private static void firstAndLastDay() {
        for (int edge = 0; edge < 32; edge += 31) {
            TwoTimesTable x = new TwoTimesTable();
            int day = edge;
            x.state(0, 0, 5, day, day + 1);
            Check.fails("insert on all days", Check.STATE, () -> x.state(1, 0, 1, 0, 32));
            Check.due("update on all days", 1, () -> x.state(2, 0, 6, 0, 32));
            Check.due("add on all days", 1, () -> x.state(3, 0, 6, 0, 32));
            int from = day == 0 ? 1 : 0;
            Check.fails("update beside it", Check.ELEMENT, () -> x.state(2, 0, 6, from, from + 31));
            Check.due("the value", 12, () -> x.value(0, day, 0));
            Check.due("insert beside it", 31, () -> x.state(1, 0, 1, from, from + 31));
            Check.due("delete on all days", 32, () -> x.state(4, 0, 0, 0, 32));
        }
    }

    private static void failureAtTheLastTime() {
        TwoTimesTable x = new TwoTimesTable();
        x.state(0, 3, 1, 0, 32);
        for (int time = 1; time < 40; time++) {
            x.tick();
        }
        Check.fails("insert", Check.STATE, () -> x.state(1, 3, 1, 31, 32));
        Check.fails("delete", Check.ELEMENT, () -> x.state(4, 0, 1, 31, 32));
        Check.fails("no key", Check.ARGUMENT, () -> x.state(0, 4, 1, 31, 32));
        Check.due("rows", 1, x::rows);
    }
}
