/** Promises 8 to 10 and 15: value, has, sum, changes. */
public final class ReadTest {
    private static final int[] WRONG = {-1, Integer.MIN_VALUE, Integer.MAX_VALUE};

    public static void main(String[] args) {
        valueAndHas();
        wrongPlaces();
        sums();
        changes();
        Check.end("ReadTest");
    }

    private static void valueAndHas() {
        TwoTimesTable x = new TwoTimesTable();
        for (int time = 0; time < 40; time++) {
            if (time > 0) {
                x.tick();
            }
            x.state(0, 3, -time, 31, 32);
            x.state(0, 0, time, 0, 1);
        }
        for (int time = 0; time < 40; time++) {
            int t = time;
            Check.due("value", -t, () -> x.value(3, 31, t));
            Check.due("value", t, () -> x.value(0, 0, t));
            Check.due("has", 1, () -> Check.of(x.has(3, 31, t)));
            Check.fails("nothing", Check.ELEMENT, () -> x.value(3, 30, t));
            Check.fails("nothing", Check.ELEMENT, () -> x.value(1, 0, t));
            Check.due("has not", 0, () -> Check.of(x.has(3, 0, t)));
        }
    }

    private static void wrongPlaces() {
        TwoTimesTable x = new TwoTimesTable();
        for (int key = 0; key < 4; key++) {
            x.state(0, key, 1, 0, 32);
        }
        x.tick();
        for (int wrong : WRONG) {
            Check.fails("value key", Check.ARGUMENT, () -> x.value(wrong, 0, 0));
            Check.fails("value day", Check.ARGUMENT, () -> x.value(0, wrong, 0));
            Check.fails("value time", Check.ARGUMENT, () -> x.value(0, 0, wrong));
            Check.due("has key", 0, () -> Check.of(x.has(wrong, 0, 0)));
            Check.due("has day", 0, () -> Check.of(x.has(0, wrong, 0)));
            Check.due("has time", 0, () -> Check.of(x.has(0, 0, wrong)));
            Check.fails("sum key", Check.ARGUMENT, () -> x.sum(wrong, 0, 1, 0));
            Check.fails("sum from", Check.ARGUMENT, () -> x.sum(0, wrong, 1, 0));
            Check.fails("sum to", Check.ARGUMENT, () -> x.sum(0, 0, wrong, 0));
            Check.fails("sum time", Check.ARGUMENT, () -> x.sum(0, 0, 1, wrong));
            Check.fails("changes key", Check.ARGUMENT, () -> x.changes(wrong, 0));
            Check.fails("changes day", Check.ARGUMENT, () -> x.changes(0, wrong));
        }
        Check.fails("value key 4", Check.ARGUMENT, () -> x.value(4, 0, 0));
        Check.fails("value day 32", Check.ARGUMENT, () -> x.value(0, 32, 0));
        Check.fails("value of the time to come", Check.ARGUMENT, () -> x.value(0, 0, 2));
        Check.due("has key 4", 0, () -> Check.of(x.has(4, 0, 0)));
        Check.due("has day 32", 0, () -> Check.of(x.has(0, 32, 0)));
        Check.due("has in the time to come", 0, () -> Check.of(x.has(0, 0, 2)));
        Check.fails("sum key 4", Check.ARGUMENT, () -> x.sum(4, 0, 1, 0));
        Check.fails("sum to 33", Check.ARGUMENT, () -> x.sum(0, 0, 33, 0));
        Check.fails("sum of no days", Check.ARGUMENT, () -> x.sum(0, 4, 4, 0));
        Check.fails("sum reversed", Check.ARGUMENT, () -> x.sum(0, 5, 4, 0));
        Check.fails("sum of the time to come", Check.ARGUMENT, () -> x.sum(0, 0, 1, 2));
        Check.fails("changes key 4", Check.ARGUMENT, () -> x.changes(4, 0));
        Check.fails("changes day 32", Check.ARGUMENT, () -> x.changes(0, 32));
    }

    private static void sums() {
        TwoTimesTable x = new TwoTimesTable();
        Check.due("of nothing", 0, () -> x.sum(2, 0, 32, 0));
        x.state(0, 2, Integer.MAX_VALUE, 0, 16);
        x.state(0, 2, 3, 20, 24);
        Check.due("a long sum", 16L * Integer.MAX_VALUE + 12, () -> x.sum(2, 0, 32, 0));
        Check.due("a part", Integer.MAX_VALUE + 3L, () -> x.sum(2, 15, 21, 0));
        Check.due("the gap", 0, () -> x.sum(2, 16, 20, 0));
        Check.due("one day", 3, () -> x.sum(2, 23, 24, 0));
        x.tick();
        x.state(0, 2, Integer.MIN_VALUE, 0, 32);
        Check.due("a small sum", 32L * Integer.MIN_VALUE, () -> x.sum(2, 0, 32, 1));
        Check.due("the time before", 12, () -> x.sum(2, 16, 32, 0));
        x.state(4, 2, 0, 0, 31);
        Check.due("what was taken out is not summed", Integer.MIN_VALUE, () -> x.sum(2, 0, 32, 1));
    }

    private static void changes() {
        TwoTimesTable x = new TwoTimesTable();
        x.state(0, 1, 1, 0, 8);
        Check.due("time 0 has none before it", 0, () -> x.changes(1, 0));
        x.tick();
        x.state(0, 1, 2, 0, 8);
        Check.due("another value", 1, () -> x.changes(1, 0));
        x.state(0, 1, 1, 0, 4);
        Check.due("changed back at the same time", 0, () -> x.changes(1, 0));
        Check.due("not changed back", 1, () -> x.changes(1, 7));
        x.tick();
        x.state(4, 1, 0, 0, 2);
        Check.due("nothing where there was one", 1, () -> x.changes(1, 0));
        x.tick();
        x.tick();
        x.state(0, 1, 1, 0, 1);
        Check.due("one where there was nothing", 2, () -> x.changes(1, 0));
        Check.due("still nothing", 1, () -> x.changes(1, 1));
        Check.due("untouched", 0, () -> x.changes(1, 2));
        x.tick();
        x.state(4, 1, 0, 0, 1);
        x.state(0, 1, 1, 0, 1);
        Check.due("out and in again at one time", 2, () -> x.changes(1, 0));
        Check.due("never anything", 0, () -> x.changes(1, 31));
        Check.due("another key", 0, () -> x.changes(0, 0));
    }
}
