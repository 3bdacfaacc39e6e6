/** Promises 11 and 12: runs, run. */
public final class RunTest {
    private static final int[] WRONG = {-1, Integer.MIN_VALUE, Integer.MAX_VALUE};

    public static void main(String[] args) {
        neighboursJoin();
        edges();
        wrongInputs();
        Check.end("RunTest");
    }

    private static void runIs(TwoTimesTable x, int key, int time, int k, int from, int to, int value) {
        Check.due("from", from, () -> x.run(key, time, k, 0));
        Check.due("to", to, () -> x.run(key, time, k, 1));
        Check.due("value", value, () -> x.run(key, time, k, 2));
    }

    private static void neighboursJoin() {
        TwoTimesTable x = new TwoTimesTable();
        x.state(0, 2, 5, 4, 8);
        x.state(0, 2, 5, 8, 10);
        Check.due("two statements make one run", 1, () -> x.runs(2, 0));
        runIs(x, 2, 0, 0, 4, 10, 5);
        x.state(0, 2, 5, 11, 12);
        Check.due("a gap keeps runs apart", 2, () -> x.runs(2, 0));
        runIs(x, 2, 0, 1, 11, 12, 5);
        x.state(0, 2, 6, 10, 11);
        Check.due("another value keeps them apart", 3, () -> x.runs(2, 0));
        runIs(x, 2, 0, 1, 10, 11, 6);
        x.tick();
        x.state(2, 2, 5, 0, 32);
        Check.due("one run now", 1, () -> x.runs(2, 1));
        runIs(x, 2, 1, 0, 4, 12, 5);
        Check.due("three before", 3, () -> x.runs(2, 0));
        runIs(x, 2, 0, 2, 11, 12, 5);
    }

    private static void edges() {
        TwoTimesTable x = new TwoTimesTable();
        x.state(0, 3, 0, 0, 32);
        Check.due("all days", 1, () -> x.runs(3, 0));
        runIs(x, 3, 0, 0, 0, 32, 0);
        x.state(4, 3, 0, 1, 31);
        Check.due("first and last day", 2, () -> x.runs(3, 0));
        runIs(x, 3, 0, 0, 0, 1, 0);
        runIs(x, 3, 0, 1, 31, 32, 0);
        for (int day = 0; day < 32; day++) {
            x.state(0, 3, day % 2 == 0 ? Integer.MIN_VALUE : 0, day, day + 1);
        }
        Check.due("32 runs", 32, () -> x.runs(3, 0));
        runIs(x, 3, 0, 31, 31, 32, 0);
        runIs(x, 3, 0, 16, 16, 17, Integer.MIN_VALUE);
        Check.due("one key's last day is not the next one's first", 0, () -> x.runs(2, 0));
    }

    private static void wrongInputs() {
        TwoTimesTable x = new TwoTimesTable();
        x.state(0, 0, 1, 0, 4);
        x.tick();
        for (int wrong : WRONG) {
            Check.fails("runs key", Check.ARGUMENT, () -> x.runs(wrong, 0));
            Check.fails("runs time", Check.ARGUMENT, () -> x.runs(0, wrong));
            Check.fails("run key", Check.ARGUMENT, () -> x.run(wrong, 0, 0, 0));
            Check.fails("run time", Check.ARGUMENT, () -> x.run(0, wrong, 0, 0));
            Check.fails("run part", Check.ARGUMENT, () -> x.run(0, 0, 0, wrong));
            Check.fails("run k", Check.INDEX, () -> x.run(0, 0, wrong, 0));
            Check.fails("key before k", Check.ARGUMENT, () -> x.run(wrong, 0, 9, 0));
            Check.fails("time before k", Check.ARGUMENT, () -> x.run(0, wrong, -1, 0));
            Check.fails("part before k", Check.ARGUMENT, () -> x.run(0, 0, wrong, wrong));
        }
        Check.fails("runs key 4", Check.ARGUMENT, () -> x.runs(4, 0));
        Check.fails("runs in the time to come", Check.ARGUMENT, () -> x.runs(0, 2));
        Check.fails("run key 4", Check.ARGUMENT, () -> x.run(4, 0, 0, 0));
        Check.fails("run in the time to come", Check.ARGUMENT, () -> x.run(0, 2, 0, 0));
        Check.fails("part 3", Check.ARGUMENT, () -> x.run(0, 0, 0, 3));
        Check.fails("run 1 of one", Check.INDEX, () -> x.run(0, 0, 1, 0));
        Check.fails("run 0 of none", Check.INDEX, () -> x.run(1, 0, 0, 2));
    }
}
