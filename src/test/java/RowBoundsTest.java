/** RUNS and ROWS in "Terms" of the document, and promises 11 to 15: each sentence at its bounds. */
public final class RowBoundsTest {
    private static final int NONE = TwoTimesTable.NONE;
    private static final int[] FAR = {Integer.MIN_VALUE, Integer.MIN_VALUE + 1, 1 << 30, Integer.MAX_VALUE};

    public static void main(String[] args) {
        runsAreTheLongestPeriods();
        runsOfEachPeriod();
        runsAreNumberedByTheirDays();
        nothingMakesNoRun();
        asManyRunsAsDays();
        whichRunsThereAre();
        whichPartsOfARunThereAre();
        theRunIsLookedAtLast();
        aRowThatBeginsAtTheFirstTime();
        aRowThatBeginsAtThePresentTime();
        theEndDoesNotBelongToARow();
        aRowOfAllTimes();
        anotherRunIsAnotherRow();
        aRowThatEndedMayBeginAgain();
        rowsByKeysThenBeginsThenDays();
        noRows();
        whichRowsThereAre();
        whichPartsOfARowThereAre();
        changesOfNoneAndAllTimes();
        whatCountsAsAChange();
        Check.end("RowBoundsTest");
    }

    private static void runIs(TwoTimesTable x, int k, int from, int to, int value) {
        int time = x.clock();
        Check.due("from of run " + k, from, () -> x.run(1, time, k, 0));
        Check.due("to of run " + k, to, () -> x.run(1, time, k, 1));
        Check.due("value of run " + k, value, () -> x.run(1, time, k, 2));
    }

    private static void rowIs(TwoTimesTable x, int k, int... parts) {
        for (int part = 0; part < 6; part++) {
            int p = part;
            Check.due("part " + part + " of row " + k, parts[part], () -> x.row(k, p));
        }
    }

    /** "the longest periods in which it has the same value on all days": a day between keeps them apart. */
    private static void runsAreTheLongestPeriods() {
        TwoTimesTable x = new TwoTimesTable();
        x.state(1, 1, 5, 4, 6);
        x.state(1, 1, 5, 6, 7);
        x.state(1, 1, 5, 3, 4);
        runIs(x, 0, 3, 7, 5);
        x.state(1, 1, 5, 8, 9);
        Check.due("a day of nothing between", 2, () -> x.runs(1, 0));
        x.state(1, 1, 6, 7, 8);
        Check.due("a day of another value between", 3, () -> x.runs(1, 0));
        x.state(3, 1, -1, 7, 8);
        Check.due("which becomes the same", 1, () -> x.runs(1, 0));
        runIs(x, 0, 3, 9, 5);
        x.state(4, 1, 0, 5, 6);
        Check.due("a day taken out", 2, () -> x.runs(1, 0));
        runIs(x, 0, 3, 5, 5);
        runIs(x, 1, 6, 9, 5);
        x.state(0, 1, 5, 5, 6);
        runIs(x, 0, 3, 9, 5);
    }

    /** One run for each period there is; the days around it have nothing, or another value. */
    private static void runsOfEachPeriod() {
        for (int from = 0; from < 32; from++) {
            for (int to = from + 1; to <= 32; to++) {
                TwoTimesTable x = new TwoTimesTable();
                x.state(0, 1, -1, from, to);
                Check.due("runs", 1, () -> x.runs(1, 0));
                runIs(x, 0, from, to, -1);
                x.tick();
                x.state(0, 1, 0, 0, 32);
                x.state(0, 1, -1, from, to);
                int first = from == 0 ? 0 : 1;
                Check.due("runs", 1 + first + (to == 32 ? 0 : 1), () -> x.runs(1, 1));
                runIs(x, first, from, to, -1);
            }
        }
    }

    /** "they are numbered 0, 1, .. from the first day on", in whatever order they came. */
    private static void runsAreNumberedByTheirDays() {
        TwoTimesTable x = new TwoTimesTable();
        x.state(0, 1, 3, 31, 32);
        x.state(0, 1, 1, 0, 1);
        x.state(0, 1, 2, 16, 18);
        runIs(x, 0, 0, 1, 1);
        runIs(x, 1, 16, 18, 2);
        runIs(x, 2, 31, 32, 3);
    }

    /** "(Nothing makes no run.)" */
    private static void nothingMakesNoRun() {
        TwoTimesTable x = new TwoTimesTable();
        Check.due("at first", 0, () -> x.runs(1, 0));
        x.state(0, 1, 0, 0, 32);
        Check.due("of 0", 1, () -> x.runs(1, 0));
        x.tick();
        x.state(4, 1, 0, 0, 32);
        Check.due("when all is taken out", 0, () -> x.runs(1, 1));
        Check.fails("no run 0", Check.INDEX, () -> x.run(1, 1, 0, 0));
        Check.due("the time before", 1, () -> x.runs(1, 0));
        x.tick();
        Check.due("the time behind", 0, () -> x.runs(1, 2));
    }

    /** The greatest number of runs, by values that differ, and 16 with nothing between. */
    private static void asManyRunsAsDays() {
        TwoTimesTable x = new TwoTimesTable();
        Tables.singleDays(x, 1);
        Check.due("32 runs", 32, () -> x.runs(1, 0));
        runIs(x, 0, 0, 1, 0);
        runIs(x, 31, 31, 32, 3100);
        Check.fails("no run 32", Check.INDEX, () -> x.run(1, 0, 32, 0));
        x.tick();
        x.state(2, 1, 7, 0, 32);
        for (int day = 0; day < 32; day += 2) {
            x.state(4, 1, 0, day, day + 1);
        }
        Check.due("16 runs", 16, () -> x.runs(1, 1));
        runIs(x, 0, 1, 2, 7);
        runIs(x, 15, 31, 32, 7);
        Check.fails("no run 16", Check.INDEX, () -> x.run(1, 1, 16, 0));
    }

    /** Promise 12: "IndexOutOfBoundsException when there is no such run": with none, one, two and three. */
    private static void whichRunsThereAre() {
        TwoTimesTable x = new TwoTimesTable();
        for (int count = 0; count <= 3; count++) {
            int n = count;
            for (int part = 0; part <= 2; part++) {
                int p = part;
                Check.fails("run -1 of " + count, Check.INDEX, () -> x.run(1, 0, -1, p));
                Check.fails("run behind the last of " + count, Check.INDEX, () -> x.run(1, 0, n, p));
                Check.fails("run 32", Check.INDEX, () -> x.run(1, 0, 32, p));
            }
            for (int far : FAR) {
                Check.fails("run " + far, Check.INDEX, () -> x.run(1, 0, far, 0));
            }
            if (count > 0) {
                Check.due("the last of " + count, 2 * count - 2, () -> x.run(1, 0, n - 1, 0));
            }
            x.state(1, 1, 5, 2 * count, 2 * count + 1);
        }
    }

    /** Promise 12: "IllegalArgumentException when there is no such .. part": 0 and 2 are the first and the last. */
    private static void whichPartsOfARunThereAre() {
        TwoTimesTable x = new TwoTimesTable();
        x.state(0, 1, 9, 4, 6);
        Check.fails("part -1", Check.ARGUMENT, () -> x.run(1, 0, 0, -1));
        runIs(x, 0, 4, 6, 9);
        Check.fails("part 3", Check.ARGUMENT, () -> x.run(1, 0, 0, 3));
        for (int far : FAR) {
            Check.fails("part " + far, Check.ARGUMENT, () -> x.run(1, 0, 0, far));
        }
    }

    /** Promise 12: "(this is looked at last)". */
    private static void theRunIsLookedAtLast() {
        TwoTimesTable x = new TwoTimesTable();
        x.state(0, 1, 9, 4, 6);
        for (int k : new int[] {-1, 1, Integer.MAX_VALUE, Integer.MIN_VALUE}) {
            Check.fails("no key", Check.ARGUMENT, () -> x.run(-1, 0, k, 0));
            Check.fails("no key", Check.ARGUMENT, () -> x.run(4, 0, k, 0));
            Check.fails("no time", Check.ARGUMENT, () -> x.run(1, -1, k, 0));
            Check.fails("no time", Check.ARGUMENT, () -> x.run(1, 1, k, 0));
            Check.fails("no part", Check.ARGUMENT, () -> x.run(1, 0, k, -1));
            Check.fails("no part", Check.ARGUMENT, () -> x.run(1, 0, k, 3));
            Check.fails("no run", Check.INDEX, () -> x.run(1, 0, k, 2));
        }
        Check.fails("no part, of a key that has nothing", Check.ARGUMENT, () -> x.run(0, 0, 0, 3));
    }

    /** "but not in that of begin less 1 (if there is such a time)". */
    private static void aRowThatBeginsAtTheFirstTime() {
        TwoTimesTable x = new TwoTimesTable();
        x.state(0, 0, 1, 0, 1);
        rowIs(x, 0, 0, 1, 0, 1, 0, NONE);
        x.state(0, 3, 1, 31, 32);
        rowIs(x, 1, 3, 1, 31, 32, 0, NONE);
        x.tick();
        Check.due("no row begins by a tick", 2, x::rows);
        rowIs(x, 1, 3, 1, 31, 32, 0, NONE);
    }

    /** A row may begin at the present time, at the last one too; then it is open, and goes when its run goes. */
    private static void aRowThatBeginsAtThePresentTime() {
        for (int time = 1; time <= 39; time += 38) {
            TwoTimesTable x = new TwoTimesTable();
            Tables.tickTo(x, time);
            x.state(0, 2, 4, 7, 9);
            rowIs(x, 0, 2, 4, 7, 9, time, NONE);
            x.state(4, 2, 0, 8, 9);
            Check.due("one row", 1, x::rows);
            rowIs(x, 0, 2, 4, 7, 8, time, NONE);
            x.state(4, 2, 0, 7, 8);
            Check.due("it leaves none", 0, x::rows);
        }
    }

    /** "to a time END (which does not belong to it)": a row of one time, one of two, one that ends at the last time. */
    private static void theEndDoesNotBelongToARow() {
        TwoTimesTable x = new TwoTimesTable();
        x.state(0, 0, 1, 0, 4);
        x.tick();
        x.state(0, 0, 2, 0, 4);
        rowIs(x, 0, 0, 1, 0, 4, 0, 1);
        rowIs(x, 1, 0, 2, 0, 4, 1, NONE);
        Check.due("the time before the end", 1, () -> x.value(0, 0, 0));
        Check.due("the end", 2, () -> x.value(0, 0, 1));
        x.tick();
        rowIs(x, 1, 0, 2, 0, 4, 1, NONE);
        x.tick();
        x.state(4, 0, 0, 0, 4);
        rowIs(x, 1, 0, 2, 0, 4, 1, 3);
        Tables.tickTo(x, 38);
        x.state(0, 0, 3, 0, 4);
        rowIs(x, 2, 0, 3, 0, 4, 38, NONE);
        x.tick();
        x.state(4, 0, 0, 0, 4);
        rowIs(x, 2, 0, 3, 0, 4, 38, 39);
        Check.due("no row of nothing", 3, x::rows);
    }

    /** "or still, when it is OPEN": from the first time to the last, until something ends it there. */
    private static void aRowOfAllTimes() {
        TwoTimesTable x = new TwoTimesTable();
        x.state(0, 1, 6, 0, 32);
        for (int time = 1; time <= 39; time++) {
            x.tick();
            Check.due("one row", 1, x::rows);
            Check.due("open", NONE, () -> x.row(0, 5));
        }
        x.state(0, 1, 7, 0, 32);
        rowIs(x, 0, 1, 6, 0, 32, 0, 39);
        rowIs(x, 1, 1, 7, 0, 32, 39, NONE);
        x.state(0, 1, 6, 0, 32);
        Check.due("one row again", 1, x::rows);
        rowIs(x, 0, 1, 6, 0, 32, 0, NONE);
    }

    /** "just when the period is a run of the key with the value": not with a day more or less, or another value. */
    private static void anotherRunIsAnotherRow() {
        int[][] statements = {{0, 5, 3, 4}, {0, 5, 8, 9}, {4, 0, 4, 5}, {4, 0, 7, 8}, {3, 1, 4, 8}, {2, 6, 0, 32}};
        int[][] rows = {{5, 3, 8}, {5, 4, 9}, {5, 5, 8}, {5, 4, 7}, {6, 4, 8}, {6, 4, 8}};
        for (int i = 0; i < statements.length; i++) {
            int[] s = statements[i];
            TwoTimesTable x = new TwoTimesTable();
            x.state(0, 3, 5, 4, 8);
            x.tick();
            x.state(s[0], 3, s[1], s[2], s[3]);
            Check.due("two rows", 2, x::rows);
            rowIs(x, 0, 3, 5, 4, 8, 0, 1);
            rowIs(x, 1, 3, rows[i][0], rows[i][1], rows[i][2], 1, NONE);
        }
        TwoTimesTable x = new TwoTimesTable();
        x.state(0, 3, 5, 4, 8);
        x.tick();
        x.state(0, 3, 6, 8, 9);
        x.state(0, 3, 4, 3, 4);
        x.state(0, 2, 5, 3, 9);
        Check.due("what lies beside it leaves it", 4, x::rows);
        rowIs(x, 1, 3, 5, 4, 8, 0, NONE);
    }

    /** "but not in that of begin less 1 .. nor .. in that of end": so one run may make several rows. */
    private static void aRowThatEndedMayBeginAgain() {
        TwoTimesTable x = new TwoTimesTable();
        for (int time = 0; time <= 39; time++) {
            Tables.tickTo(x, time);
            x.state(time % 2 == 0 ? 1 : 4, 2, 5, 10, 12);
        }
        Check.due("every other time", 20, x::rows);
        for (int k = 0; k < 20; k++) {
            rowIs(x, k, 2, 5, 10, 12, 2 * k, 2 * k + 1);
        }
        x.state(1, 2, 5, 10, 12);
        Check.due("back at the end that it had: it did not end", 20, x::rows);
        rowIs(x, 19, 2, 5, 10, 12, 38, NONE);
    }

    /** "by their keys, those of one key by their begins, those of one key and begin by the first days". */
    private static void rowsByKeysThenBeginsThenDays() {
        TwoTimesTable x = new TwoTimesTable();
        x.state(0, 3, 9, 0, 1);
        x.state(0, 1, 8, 31, 32);
        x.state(0, 1, 7, 20, 22);
        x.tick();
        x.state(0, 1, 6, 0, 1);
        x.state(0, 0, 5, 31, 32);
        x.state(0, 1, 4, 30, 31);
        x.tick();
        x.state(0, 0, 3, 0, 1);
        x.state(4, 1, 0, 0, 1);
        Check.due("rows", 7, x::rows);
        rowIs(x, 0, 0, 5, 31, 32, 1, NONE);
        rowIs(x, 1, 0, 3, 0, 1, 2, NONE);
        rowIs(x, 2, 1, 7, 20, 22, 0, NONE);
        rowIs(x, 3, 1, 8, 31, 32, 0, NONE);
        rowIs(x, 4, 1, 6, 0, 1, 1, 2);
        rowIs(x, 5, 1, 4, 30, 31, 1, NONE);
        rowIs(x, 6, 3, 9, 0, 1, 0, NONE);
    }

    private static void noRows() {
        TwoTimesTable x = new TwoTimesTable();
        Check.due("a new object", 0, x::rows);
        Check.fails("no row 0", Check.INDEX, () -> x.row(0, 0));
        Tables.tickTo(x, 39);
        Check.due("at the last time", 0, x::rows);
        Check.fails("no row 0", Check.INDEX, () -> x.row(0, 5));
    }

    /** Promise 14: "IndexOutOfBoundsException when there is no such row": with 0, 1, 2 and with 149 and 150 rows. */
    private static void whichRowsThereAre() {
        for (int count = 0; count <= 2; count++) {
            TwoTimesTable x = new TwoTimesTable();
            for (int i = 0; i < count; i++) {
                x.state(0, 3 - i, i, 0, 1);
            }
            rowsEndAt(x, count);
        }
        for (int count = 149; count <= 150; count++) {
            int n = count;
            rowsEndAt(Seen.made(x -> Tables.rows(x, n)), count);
        }
    }

    private static void rowsEndAt(TwoTimesTable x, int count) {
        Check.due("rows", count, x::rows);
        for (int part = 0; part <= 5; part++) {
            int p = part;
            Check.fails("row -1 of " + count, Check.INDEX, () -> x.row(-1, p));
            Check.fails("row behind the last of " + count, Check.INDEX, () -> x.row(count, p));
            Check.fails("and the next", Check.INDEX, () -> x.row(count + 1, p));
        }
        for (int far : FAR) {
            Check.fails("row " + far, Check.INDEX, () -> x.row(far, 0));
        }
        if (count > 0) {
            Check.due("to of the first", 1, () -> x.row(0, 3));
            Check.due("days of the last", 1, () -> x.row(count - 1, 3) - x.row(count - 1, 2));
        }
    }

    /** Promise 14: "IllegalArgumentException when there is no such part": 0 and 5 are the first and the last. */
    private static void whichPartsOfARowThereAre() {
        TwoTimesTable x = new TwoTimesTable();
        x.tick();
        x.state(0, 2, 9, 4, 6);
        x.tick();
        x.state(4, 2, 9, 4, 6);
        Check.fails("part -1", Check.ARGUMENT, () -> x.row(0, -1));
        rowIs(x, 0, 2, 9, 4, 6, 1, 2);
        Check.fails("part 6", Check.ARGUMENT, () -> x.row(0, 6));
        for (int far : FAR) {
            Check.fails("part " + far, Check.ARGUMENT, () -> x.row(0, far));
        }
    }

    /** Promise 15: "How often, in all, .. from one time to the next": none at time 0, at most 39. */
    private static void changesOfNoneAndAllTimes() {
        TwoTimesTable x = new TwoTimesTable();
        x.state(0, 0, 0, 0, 32);
        x.state(0, 0, 1, 0, 32);
        Check.due("no time before the first", 0, () -> x.changes(0, 0));
        for (int time = 1; time <= 39; time++) {
            int t = time;
            x.tick();
            Check.due("a tick is none", t - 1, () -> x.changes(0, 0));
            x.state(3, 0, 1, 0, 32);
            x.state(3, 0, 1, 0, 31);
            Check.due("two statements are one, day 0", t, () -> x.changes(0, 0));
            Check.due("one is one, day 31", t, () -> x.changes(0, 31));
        }
        Check.due("the key beside it", 0, () -> x.changes(1, 0));
    }

    /** Promise 15: "(another value, one where there was nothing, or nothing where there was one)". */
    private static void whatCountsAsAChange() {
        TwoTimesTable x = new TwoTimesTable();
        x.tick();
        x.state(1, 3, 0, 5, 6);
        Check.due("0 where there was nothing", 1, () -> x.changes(3, 5));
        x.tick();
        x.state(4, 3, 0, 5, 6);
        Check.due("nothing where there was 0", 2, () -> x.changes(3, 5));
        x.tick();
        x.state(1, 3, 7, 5, 6);
        x.state(4, 3, 7, 5, 6);
        Check.due("nothing as before", 2, () -> x.changes(3, 5));
        x.state(1, 3, 7, 5, 6);
        Check.due("one where there was nothing", 3, () -> x.changes(3, 5));
        x.tick();
        x.state(2, 3, 8, 5, 6);
        Check.due("another value", 4, () -> x.changes(3, 5));
        x.state(4, 3, 8, 5, 6);
        x.state(1, 3, 7, 4, 6);
        Check.due("the same value in a longer run", 3, () -> x.changes(3, 5));
        Check.due("the day before", 1, () -> x.changes(3, 4));
        Check.due("the day behind", 0, () -> x.changes(3, 6));
    }
}
