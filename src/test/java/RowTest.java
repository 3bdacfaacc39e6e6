/** Promises 13 and 14: rows, row. */
public final class RowTest {
    private static final int[] WRONG = {-1, Integer.MIN_VALUE, Integer.MAX_VALUE};

    public static void main(String[] args) {
        rowsOfOneTimeFollowItsState();
        aRowNeedsTheWholePeriod();
        aRowMayComeBack();
        order();
        allParts();
        wrongInputs();
        Check.end("RowTest");
    }

    private static void rowIs(TwoTimesTable x, int k, int... parts) {
        for (int part = 0; part < 6; part++) {
            int p = part;
            Check.due("row " + k + " part " + p, parts[p], () -> x.row(k, p));
        }
    }

    private static void rowsOfOneTimeFollowItsState() {
        TwoTimesTable x = new TwoTimesTable();
        x.state(0, 0, 1, 0, 4);
        Check.due("one row", 1, x::rows);
        x.state(0, 0, 2, 1, 2);
        Check.due("split at its own time, no row is left behind", 3, x::rows);
        rowIs(x, 0, 0, 1, 0, 1, 0, TwoTimesTable.NONE);
        rowIs(x, 1, 0, 2, 1, 2, 0, TwoTimesTable.NONE);
        rowIs(x, 2, 0, 1, 2, 4, 0, TwoTimesTable.NONE);
        x.state(4, 0, 0, 0, 32);
        Check.due("taken out at its own time, none is left", 0, x::rows);
        x.state(0, 0, 1, 0, 4);
        x.tick();
        x.state(4, 0, 0, 0, 32);
        Check.due("taken out later, it is left", 1, x::rows);
        rowIs(x, 0, 0, 1, 0, 4, 0, 1);
        x.state(0, 0, 1, 0, 4);
        Check.due("put back at the same time, it is open again", 1, x::rows);
        rowIs(x, 0, 0, 1, 0, 4, 0, TwoTimesTable.NONE);
    }

    private static void aRowNeedsTheWholePeriod() {
        TwoTimesTable x = new TwoTimesTable();
        x.state(0, 1, 7, 10, 20);
        x.tick();
        x.state(0, 1, 7, 20, 21);
        Check.due("longer at its end", 2, x::rows);
        rowIs(x, 0, 1, 7, 10, 20, 0, 1);
        rowIs(x, 1, 1, 7, 10, 21, 1, TwoTimesTable.NONE);
        x.tick();
        x.state(0, 1, 7, 9, 10);
        Check.due("longer at its beginning", 3, x::rows);
        rowIs(x, 1, 1, 7, 10, 21, 1, 2);
        rowIs(x, 2, 1, 7, 9, 21, 2, TwoTimesTable.NONE);
        x.tick();
        x.state(4, 1, 0, 9, 10);
        Check.due("shorter at its beginning", 4, x::rows);
        rowIs(x, 2, 1, 7, 9, 21, 2, 3);
        rowIs(x, 3, 1, 7, 10, 21, 3, TwoTimesTable.NONE);
        x.tick();
        x.state(4, 1, 0, 20, 21);
        rowIs(x, 3, 1, 7, 10, 21, 3, 4);
        rowIs(x, 4, 1, 7, 10, 20, 4, TwoTimesTable.NONE);
        x.tick();
        x.state(3, 1, 1, 10, 20);
        rowIs(x, 4, 1, 7, 10, 20, 4, 5);
        rowIs(x, 5, 1, 8, 10, 20, 5, TwoTimesTable.NONE);
        x.tick();
        x.state(0, 1, 9, 9, 10);
        x.state(0, 1, 9, 20, 21);
        Check.due("neighbours of another value", 8, x::rows);
        rowIs(x, 5, 1, 8, 10, 20, 5, TwoTimesTable.NONE);
    }

    private static void aRowMayComeBack() {
        TwoTimesTable x = new TwoTimesTable();
        x.state(0, 2, 3, 5, 6);
        x.tick();
        x.state(4, 2, 3, 5, 6);
        x.tick();
        x.tick();
        x.state(1, 2, 3, 5, 6);
        x.tick();
        Check.due("two rows of the same", 2, x::rows);
        rowIs(x, 0, 2, 3, 5, 6, 0, 1);
        rowIs(x, 1, 2, 3, 5, 6, 3, TwoTimesTable.NONE);
    }

    private static void order() {
        TwoTimesTable x = new TwoTimesTable();
        x.state(0, 2, 1, 20, 21);
        x.state(0, 2, 2, 10, 11);
        x.state(0, 0, 3, 5, 6);
        x.tick();
        x.state(0, 0, 4, 0, 1);
        x.state(0, 2, 5, 0, 1);
        x.state(0, 1, 6, 31, 32);
        Check.due("rows", 6, x::rows);
        rowIs(x, 0, 0, 3, 5, 6, 0, TwoTimesTable.NONE);
        rowIs(x, 1, 0, 4, 0, 1, 1, TwoTimesTable.NONE);
        rowIs(x, 2, 1, 6, 31, 32, 1, TwoTimesTable.NONE);
        rowIs(x, 3, 2, 2, 10, 11, 0, TwoTimesTable.NONE);
        rowIs(x, 4, 2, 1, 20, 21, 0, TwoTimesTable.NONE);
        rowIs(x, 5, 2, 5, 0, 1, 1, TwoTimesTable.NONE);
    }

    private static void allParts() {
        TwoTimesTable x = new TwoTimesTable();
        for (int i = 0; i < 38; i++) {
            x.tick();
        }
        x.state(0, 3, Integer.MIN_VALUE, 0, 32);
        x.tick();
        rowIs(x, 0, 3, Integer.MIN_VALUE, 0, 32, 38, TwoTimesTable.NONE);
        x.state(0, 3, -1, 0, 32);
        rowIs(x, 0, 3, Integer.MIN_VALUE, 0, 32, 38, 39);
        rowIs(x, 1, 3, -1, 0, 32, 39, TwoTimesTable.NONE);
    }

    private static void wrongInputs() {
        TwoTimesTable x = new TwoTimesTable();
        Check.fails("row 0 of none", Check.INDEX, () -> x.row(0, 0));
        x.state(0, 0, 1, 0, 4);
        for (int wrong : WRONG) {
            Check.fails("part", Check.ARGUMENT, () -> x.row(0, wrong));
            Check.fails("k", Check.INDEX, () -> x.row(wrong, 5));
            Check.fails("part before k", Check.ARGUMENT, () -> x.row(wrong, wrong));
        }
        Check.fails("part 6", Check.ARGUMENT, () -> x.row(0, 6));
        Check.fails("row 1 of one", Check.INDEX, () -> x.row(1, 0));
        Check.fails("row 1, part 6", Check.ARGUMENT, () -> x.row(1, 6));
    }
}
