/** Promises 1 to 3, 8 to 10, 16 and 17, and the 512 calls of an object: each sentence at its bounds. */
public final class CallBoundsTest {
    private static final int[] FAR = {Integer.MIN_VALUE, Integer.MIN_VALUE + 1, 1 << 30, Integer.MAX_VALUE};

    public static void main(String[] args) {
        anObjectAnswers512Calls();
        aNewObject();
        theClockEndsAt39();
        theRefusedTickChangesNothing();
        valueOfNothing();
        valueLooksAtPlacesFirst();
        hasNeverFails();
        sumOfOneAndAllDays();
        sumIsALong();
        sumWithoutAnyValue();
        whatIsAskedChangesNothing();
        relationAtEachBound();
        relationOfTheShortestAndTheLongest();
        whichRelationsThereAre();
        joinOfNoRuns();
        joinOfAKeyWithItself();
        theGreatestJoins();
        joinAtATime();
        Check.end("CallBoundsTest");
    }

    /** "An object is used for at most 512 calls": the 512th is answered as the first ones are. */
    private static void anObjectAnswers512Calls() {
        TwoTimesTable x = Seen.made(y -> Tables.rows(y, 150));
        int made = 41;
        for (int call = made + 1; call < 500; call++) {
            Check.fails("151 rows", Check.STATE, () -> x.state(0, 3, 1, 0, 32));
        }
        for (int call = 500; call < 508; call++) {
            Check.due("queue", 1, () -> Check.of(x.queue(3, 0, 1, 0, 32)));
        }
        Check.fails("commit", Check.STATE, x::commit);
        Check.due("rows", 150, x::rows);
        Check.due("clock", 5, x::clock);
        Check.due("failed", 0, x::failed);
        Check.due("the 512th", 3103, () -> x.value(0, 31, 5));
    }

    /** "The clock shows 0; there is nothing; no statements wait." */
    private static void aNewObject() {
        Check.due("clock", 0, () -> new TwoTimesTable().clock());
        Check.due("rows", 0, () -> new TwoTimesTable().rows());
        Check.due("commit", 0, () -> new TwoTimesTable().commit());
        Check.due("failed", TwoTimesTable.NONE, () -> new TwoTimesTable().failed());
        for (int key = 0; key <= 3; key++) {
            int k = key;
            TwoTimesTable x = new TwoTimesTable();
            for (int day = 0; day <= 31; day++) {
                int d = day;
                Check.fails("value", Check.ELEMENT, () -> x.value(k, d, 0));
                Check.due("has", 0, () -> Check.of(x.has(k, d, 0)));
                Check.due("changes", 0, () -> x.changes(k, d));
            }
            Check.due("runs", 0, () -> x.runs(k, 0));
            Check.fails("there is no time 1 yet", Check.ARGUMENT, () -> x.runs(k, 1));
        }
    }

    /** "The clock goes on by 1; answers what it shows. IllegalStateException when it shows 39." */
    private static void theClockEndsAt39() {
        TwoTimesTable x = new TwoTimesTable();
        Check.due("at first", 0, x::clock);
        Check.due("the first tick", 1, x::tick);
        Check.due("clock", 1, x::clock);
        Tables.tickTo(x, 37);
        Check.due("to 38", 38, x::tick);
        Check.due("to 39", 39, x::tick);
        Check.due("clock", 39, x::clock);
        Check.fails("to 40", Check.STATE, x::tick);
        Check.due("clock", 39, x::clock);
        Check.fails("again", Check.STATE, x::tick);
        Check.due("clock", 39, x::clock);
    }

    /** A tick that is refused leaves the last time's state, the rows and what waits; no tick changes what waits. */
    private static void theRefusedTickChangesNothing() {
        Seen.refused("tick", Check.STATE, x -> {
            x.state(0, 0, 1, 0, 32);
            Tables.tickTo(x, 39);
            x.state(0, 3, 4, 30, 32);
            x.queue(3, 3, 1, 31, 32);
            x.queue(1, 0, 1, 31, 32);
        }, TwoTimesTable::tick);
        TwoTimesTable x = new TwoTimesTable();
        for (int i = 0; i < 8; i++) {
            x.queue(0, 0, 1, 0, 1);
        }
        Tables.tickTo(x, 39);
        Check.due("eight wait", 0, () -> Check.of(x.queue(0, 0, 1, 0, 1)));
        Check.due("and are done", 1, x::commit);
    }

    /** Promise 8: "NoSuchElementException when it has nothing": beside a value, before it and behind it. */
    private static void valueOfNothing() {
        TwoTimesTable x = new TwoTimesTable();
        x.tick();
        x.state(0, 1, 0, 10, 12);
        x.tick();
        x.state(4, 1, 0, 10, 12);
        Check.fails("the day before", Check.ELEMENT, () -> x.value(1, 9, 1));
        Check.due("the first day", 0, () -> x.value(1, 10, 1));
        Check.due("the last day", 0, () -> x.value(1, 11, 1));
        Check.fails("the day behind", Check.ELEMENT, () -> x.value(1, 12, 1));
        Check.fails("the time before", Check.ELEMENT, () -> x.value(1, 10, 0));
        Check.fails("the time behind", Check.ELEMENT, () -> x.value(1, 10, 2));
        Check.fails("the key before", Check.ELEMENT, () -> x.value(0, 10, 1));
        Check.fails("the key behind", Check.ELEMENT, () -> x.value(2, 10, 1));
    }

    /** Promise 8: where there is no such key, day or time, it can have nothing; that is told by the first exception. */
    private static void valueLooksAtPlacesFirst() {
        TwoTimesTable x = new TwoTimesTable();
        Check.fails("key", Check.ARGUMENT, () -> x.value(-1, 0, 0));
        Check.fails("key", Check.ARGUMENT, () -> x.value(4, 0, 0));
        Check.fails("day", Check.ARGUMENT, () -> x.value(0, -1, 0));
        Check.fails("day", Check.ARGUMENT, () -> x.value(0, 32, 0));
        Check.fails("time", Check.ARGUMENT, () -> x.value(0, 0, -1));
        Check.fails("time", Check.ARGUMENT, () -> x.value(0, 0, 1));
        Check.fails("all of them", Check.ARGUMENT, () -> x.value(4, 32, 1));
        Check.fails("none of them", Check.ELEMENT, () -> x.value(3, 31, 0));
    }

    /** Promise 9: "false, too, when there is no such key, day or time": one, two or all three of them. */
    private static void hasNeverFails() {
        TwoTimesTable x = new TwoTimesTable();
        Tables.fillAll(x);
        x.tick();
        int[] keys = {-1, 0, 3, 4, Integer.MIN_VALUE, Integer.MAX_VALUE};
        int[] days = {-1, 0, 31, 32, Integer.MIN_VALUE, Integer.MAX_VALUE};
        int[] times = {-1, 0, 1, 2, Integer.MIN_VALUE, Integer.MAX_VALUE};
        for (int key : keys) {
            for (int day : days) {
                for (int time : times) {
                    boolean there = key >= 0 && key <= 3 && day >= 0 && day <= 31 && time >= 0 && time <= 1;
                    String what = "has " + key + " " + day + " " + time;
                    Check.due(what, Check.of(there), () -> Check.of(x.has(key, day, time)));
                }
            }
        }
    }

    /** Promise 10: "over the days of a period": each day counts from its own on, and up to its own. */
    private static void sumOfOneAndAllDays() {
        TwoTimesTable x = new TwoTimesTable();
        for (int day = 0; day < 32; day++) {
            x.state(0, 3, 1 << day, day, day + 1);
        }
        for (int day = 0; day < 32; day++) {
            int d = day;
            long value = 1 << day;
            Check.due("day " + day + " alone", value, () -> x.sum(3, d, d + 1, 0));
            Check.due("up to day " + day, day < 31 ? (1L << day + 1) - 1 : -1, () -> x.sum(3, 0, d + 1, 0));
            Check.due("from day " + day + " on", -(1L << day), () -> x.sum(3, d, 32, 0));
        }
    }

    /** Promise 10: the answer is a long, so that no sum of ints wraps. */
    private static void sumIsALong() {
        TwoTimesTable x = new TwoTimesTable();
        x.state(0, 0, Integer.MAX_VALUE, 0, 32);
        Check.due("one greatest", 2147483647L, () -> x.sum(0, 0, 1, 0));
        Check.due("two", 4294967294L, () -> x.sum(0, 30, 32, 0));
        Check.due("all", 68719476704L, () -> x.sum(0, 0, 32, 0));
        x.tick();
        x.state(0, 0, Integer.MIN_VALUE, 0, 32);
        Check.due("one least", -2147483648L, () -> x.sum(0, 0, 1, 1));
        Check.due("two", -4294967296L, () -> x.sum(0, 30, 32, 1));
        Check.due("all", -68719476736L, () -> x.sum(0, 0, 32, 1));
        x.state(0, 0, Integer.MAX_VALUE, 0, 16);
        Check.due("half and half", -16, () -> x.sum(0, 0, 32, 1));
    }

    /** Promise 10: days that have nothing add nothing; a period without any value has the sum 0. */
    private static void sumWithoutAnyValue() {
        TwoTimesTable x = new TwoTimesTable();
        Check.due("at first", 0, () -> x.sum(0, 0, 32, 0));
        x.state(0, 0, 7, 10, 12);
        Check.due("before it", 0, () -> x.sum(0, 0, 10, 0));
        Check.due("its first day", 7, () -> x.sum(0, 0, 11, 0));
        Check.due("its last day", 7, () -> x.sum(0, 11, 32, 0));
        Check.due("behind it", 0, () -> x.sum(0, 12, 32, 0));
        x.tick();
        x.state(4, 0, 0, 10, 12);
        Check.due("taken out", 0, () -> x.sum(0, 0, 32, 1));
        Check.due("the time before", 14, () -> x.sum(0, 0, 32, 0));
    }

    /** No question changes what the table says, whether it is answered or refused. */
    private static void whatIsAskedChangesNothing() {
        Seen.Making making = x -> {
            Tables.rows(x, 70);
            x.state(0, 3, 1, 3, 9);
            x.queue(4, 3, 0, 0, 4);
            x.queue(9, 3, 0, 0, 4);
        };
        for (int k : new int[] {-1, 0, 3, 4, 40, Integer.MAX_VALUE}) {
            Seen.unchanged("value", making, x -> x.value(k, k, k));
            Seen.unchanged("has", making, x -> Check.of(x.has(k, k, k)));
            Seen.unchanged("sum", making, x -> x.sum(k, 0, 32, k));
            Seen.unchanged("runs", making, x -> x.runs(k, k));
            Seen.unchanged("run", making, x -> x.run(k, k, k, k));
            Seen.unchanged("row", making, x -> x.row(k, k));
            Seen.unchanged("changes", making, x -> x.changes(k, k));
            Seen.unchanged("relation", making, x -> x.relation(k, 4, 4, 5));
            Seen.unchanged("join", making, x -> x.join(k, 3, 0, k));
        }
        Seen.unchanged("clock", making, TwoTimesTable::clock);
        Seen.unchanged("rows", making, TwoTimesTable::rows);
        Seen.unchanged("failed", making, TwoTimesTable::failed);
    }

    private static void liesAs(int r, int from, int to, int otherFrom, int otherTo) {
        TwoTimesTable x = new TwoTimesTable();
        String what = from + " to " + to + " and " + otherFrom + " to " + otherTo;
        Check.due(what, r, () -> x.relation(from, to, otherFrom, otherTo));
        Check.due("the other way round, " + what, 12 - r, () -> x.relation(otherFrom, otherTo, from, to));
    }

    /** Promise 16: a period of four days before another one, then moved on day by day; and shorter and longer ones. */
    private static void relationAtEachBound() {
        liesAs(0, 4, 8, 9, 15);
        liesAs(1, 5, 9, 9, 15);
        liesAs(2, 6, 10, 9, 15);
        liesAs(2, 8, 12, 9, 15);
        liesAs(3, 9, 13, 9, 15);
        liesAs(4, 10, 14, 9, 15);
        liesAs(5, 11, 15, 9, 15);
        liesAs(10, 12, 16, 9, 15);
        liesAs(10, 14, 18, 9, 15);
        liesAs(11, 15, 19, 9, 15);
        liesAs(12, 16, 20, 9, 15);
        liesAs(2, 8, 14, 9, 15);
        liesAs(7, 8, 15, 9, 15);
        liesAs(8, 8, 16, 9, 15);
        liesAs(3, 9, 14, 9, 15);
        liesAs(6, 9, 15, 9, 15);
        liesAs(9, 9, 16, 9, 15);
        liesAs(4, 10, 14, 9, 15);
        liesAs(5, 10, 15, 9, 15);
        liesAs(10, 10, 16, 9, 15);
    }

    /** Promise 16: periods of one day and of all 32, at the first and the last day. */
    private static void relationOfTheShortestAndTheLongest() {
        liesAs(6, 0, 32, 0, 32);
        liesAs(6, 0, 1, 0, 1);
        liesAs(6, 31, 32, 31, 32);
        liesAs(3, 0, 1, 0, 32);
        liesAs(3, 0, 31, 0, 32);
        liesAs(5, 31, 32, 0, 32);
        liesAs(5, 1, 32, 0, 32);
        liesAs(4, 1, 31, 0, 32);
        liesAs(4, 1, 2, 0, 32);
        liesAs(4, 30, 31, 0, 32);
        liesAs(0, 0, 1, 31, 32);
        liesAs(0, 0, 1, 2, 3);
        liesAs(1, 0, 1, 1, 2);
        liesAs(1, 0, 31, 31, 32);
        liesAs(1, 0, 1, 1, 32);
        liesAs(2, 0, 31, 1, 32);
        liesAs(2, 0, 2, 1, 3);
    }

    /** Promise 17: "or r is not 0 .. 12". */
    private static void whichRelationsThereAre() {
        TwoTimesTable x = new TwoTimesTable();
        for (int day = 0; day < 32; day += 2) {
            x.state(0, 2, 1, day, day + 1);
        }
        Check.fails("r -1", Check.ARGUMENT, () -> x.join(2, 2, 0, -1));
        Check.due("r 0", 120, () -> x.join(2, 2, 0, 0));
        Check.due("r 12", 120, () -> x.join(2, 2, 0, 12));
        Check.fails("r 13", Check.ARGUMENT, () -> x.join(2, 2, 0, 13));
        for (int far : FAR) {
            Check.fails("r " + far, Check.ARGUMENT, () -> x.join(2, 2, 0, far));
            Check.fails("r " + far + " without runs", Check.ARGUMENT, () -> x.join(0, 0, 0, far));
        }
        Check.fails("r -1 without runs", Check.ARGUMENT, () -> x.join(0, 1, 0, -1));
        Check.fails("r 13 without runs", Check.ARGUMENT, () -> x.join(0, 1, 0, 13));
    }

    /** Promise 17: no pairs where one of the two, or both, have no runs. */
    private static void joinOfNoRuns() {
        TwoTimesTable x = new TwoTimesTable();
        x.state(0, 1, 5, 0, 32);
        for (int r = 0; r <= 12; r++) {
            int n = r;
            Check.due("both", 0, () -> x.join(0, 2, 0, n));
            Check.due("the first", 0, () -> x.join(0, 1, 0, n));
            Check.due("the second", 0, () -> x.join(1, 3, 0, n));
            Check.due("a key without runs and itself", 0, () -> x.join(3, 3, 0, n));
        }
    }

    /** Promise 17: "(or the same one)": each run makes a pair with itself, and two make two pairs. */
    private static void joinOfAKeyWithItself() {
        TwoTimesTable x = new TwoTimesTable();
        x.state(0, 3, 5, 0, 10);
        joinsAre(x, 3, 3, 0, 0, 0, 0, 0, 0, 1, 0, 0, 0, 0, 0, 0);
        x.state(0, 3, 6, 10, 12);
        joinsAre(x, 3, 3, 0, 1, 0, 0, 0, 0, 2, 0, 0, 0, 0, 1, 0);
        x.state(0, 3, 5, 31, 32);
        joinsAre(x, 3, 3, 2, 1, 0, 0, 0, 0, 3, 0, 0, 0, 0, 1, 2);
    }

    private static void joinsAre(TwoTimesTable x, int key, int other, int... counts) {
        int time = x.clock();
        for (int r = 0; r <= 12; r++) {
            int n = r;
            Check.due("join " + key + " " + other + " as " + r, counts[r], () -> x.join(key, other, time, n));
        }
    }

    /** Promise 17: the most runs that there can be, with as many, with one of all days, and with one at each end. */
    private static void theGreatestJoins() {
        TwoTimesTable x = new TwoTimesTable();
        Tables.singleDays(x, 0);
        Tables.singleDays(x, 3);
        x.state(0, 1, 1, 0, 32);
        x.state(0, 2, 1, 0, 1);
        x.state(0, 2, 1, 31, 32);
        joinsAre(x, 0, 3, 465, 31, 0, 0, 0, 0, 32, 0, 0, 0, 0, 31, 465);
        joinsAre(x, 0, 1, 0, 0, 0, 1, 30, 1, 0, 0, 0, 0, 0, 0, 0);
        joinsAre(x, 1, 0, 0, 0, 0, 0, 0, 0, 0, 1, 30, 1, 0, 0, 0);
        joinsAre(x, 0, 2, 30, 1, 0, 0, 0, 0, 2, 0, 0, 0, 0, 1, 30);
        joinsAre(x, 2, 1, 0, 0, 0, 1, 0, 1, 0, 0, 0, 0, 0, 0, 0);
        x.tick();
        x.state(0, 2, 3, 0, 2);
        x.state(4, 1, 0, 0, 1);
        joinsAre(x, 2, 1, 0, 0, 1, 0, 0, 1, 0, 0, 0, 0, 0, 0, 0);
        joinsAre(x, 1, 2, 0, 0, 0, 0, 0, 0, 0, 1, 0, 0, 1, 0, 0);
    }

    /** Promise 17: "in the state of a time": both runs are of that time, and the present one is the last. */
    private static void joinAtATime() {
        TwoTimesTable x = new TwoTimesTable();
        x.state(0, 0, 1, 0, 4);
        x.tick();
        x.state(0, 1, 1, 4, 8);
        x.tick();
        x.state(4, 0, 1, 0, 4);
        Check.due("only the first is there", 0, () -> x.join(0, 1, 0, 1));
        Check.due("both are", 1, () -> x.join(0, 1, 1, 1));
        Check.due("both are, the other way round", 1, () -> x.join(1, 0, 1, 11));
        Check.due("only the second is there", 0, () -> x.join(0, 1, 2, 1));
        Check.fails("the time to come", Check.ARGUMENT, () -> x.join(0, 1, 3, 1));
        Check.fails("before the first", Check.ARGUMENT, () -> x.join(0, 1, -1, 1));
    }
}
