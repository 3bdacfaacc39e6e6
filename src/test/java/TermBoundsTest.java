/** "Terms" of the document, what keys, days, times, periods, values, runs and rows are: each sentence at its bounds. */
public final class TermBoundsTest {
    private static final int[] NO_KEYS = {-1, 4, 5, 128, 1 << 27, 1 << 30, Integer.MAX_VALUE, Integer.MIN_VALUE};
    private static final int[] NO_DAYS = {-1, 32, 33, 63, 64, 1 << 27, Integer.MAX_VALUE, Integer.MIN_VALUE};
    private static final int[] FAR = {Integer.MIN_VALUE, Integer.MIN_VALUE + 1, Integer.MAX_VALUE - 1,
        Integer.MAX_VALUE};
    private static final int[] VALUES = {Integer.MIN_VALUE, Integer.MIN_VALUE + 1, -2, -1, 0, 1, Integer.MAX_VALUE - 1,
        Integer.MAX_VALUE};

    public static void main(String[] args) {
        theFirstAndTheLastKey();
        noSuchKeys();
        theFirstAndTheLastDay();
        noSuchDays();
        timesUpToThePresentOne();
        whichPeriodsThereAre();
        theDaysOfAPeriod();
        aValueIsAnyInt();
        nothingIsNoValue();
        aNewTimeHasTheStateBefore();
        statementsLeaveEarlierTimes();
        theLastStatementOfATimeCounts();
        Check.end("TermBoundsTest");
    }

    /** "KEYS are 0 .. 3": those at both ends. */
    private static void theFirstAndTheLastKey() {
        for (int key = 0; key <= 3; key += 3) {
            keyIsThere(key, 3 - key);
        }
    }

    private static void keyIsThere(int key, int other) {
        TwoTimesTable x = new TwoTimesTable();
        Check.due("state", 2, () -> x.state(1, key, 6, 4, 6));
        x.queue(1, key, 6, 6, 7);
        Check.due("commit", 1, x::commit);
        x.tick();
        x.state(2, key, 7, 0, 32);
        Check.due("value", 7, () -> x.value(key, 6, 1));
        Check.due("has", 1, () -> Check.of(x.has(key, 4, 0)));
        Check.due("sum", 18, () -> x.sum(key, 0, 32, 0));
        Check.due("runs", 1, () -> x.runs(key, 1));
        Check.due("run", 7, () -> x.run(key, 1, 0, 1));
        Check.due("row", key, () -> x.row(1, 0));
        Check.due("changes", 1, () -> x.changes(key, 5));
        Check.due("join with itself", 1, () -> x.join(key, key, 1, 6));
        Check.due("join with one that has nothing", 0, () -> x.join(key, other, 1, 6));
        Check.due("join of one that has nothing", 0, () -> x.join(other, key, 1, 6));
        Check.due("the others have nothing", 0, () -> x.runs(other, 1) + x.runs(1, 1) + x.runs(2, 1));
    }

    /** "KEYS are 0 .. 3": those beside them, and those that would be taken for one if numbers wrapped. */
    private static void noSuchKeys() {
        for (int key : NO_KEYS) {
            TwoTimesTable x = Seen.made(Tables::fillAll);
            for (int kind = 0; kind <= 4; kind++) {
                int k = kind;
                Check.fails("state of key " + key, Check.ARGUMENT, () -> x.state(k, key, 5, 0, 1));
            }
            Check.due("queue of key " + key, 1, () -> Check.of(x.queue(0, key, 5, 0, 1)));
            Check.fails("commit of key " + key, Check.ARGUMENT, x::commit);
            Check.fails("value of key " + key, Check.ARGUMENT, () -> x.value(key, 0, 0));
            Check.due("has of key " + key, 0, () -> Check.of(x.has(key, 0, 0)));
            Check.fails("sum of key " + key, Check.ARGUMENT, () -> x.sum(key, 0, 1, 0));
            Check.fails("runs of key " + key, Check.ARGUMENT, () -> x.runs(key, 0));
            Check.fails("run of key " + key, Check.ARGUMENT, () -> x.run(key, 0, 0, 0));
            Check.fails("changes of key " + key, Check.ARGUMENT, () -> x.changes(key, 0));
            Check.fails("join of key " + key, Check.ARGUMENT, () -> x.join(key, 0, 0, 6));
            Check.fails("join with key " + key, Check.ARGUMENT, () -> x.join(0, key, 0, 6));
            Check.due("rows", 4, x::rows);
        }
    }

    /** "DAYS 0 .. 31": those at both ends. */
    private static void theFirstAndTheLastDay() {
        for (int day = 0; day <= 31; day += 31) {
            dayIsThere(day, 31 - day);
        }
    }

    private static void dayIsThere(int day, int other) {
        TwoTimesTable x = new TwoTimesTable();
        x.tick();
        x.state(1, 2, 9, day, day + 1);
        Check.due("value", 9, () -> x.value(2, day, 1));
        Check.due("has", 1, () -> Check.of(x.has(2, day, 1)));
        Check.due("changes", 1, () -> x.changes(2, day));
        Check.fails("the other end's value", Check.ELEMENT, () -> x.value(2, other, 1));
        Check.due("the other end has", 0, () -> Check.of(x.has(2, other, 1)));
        Check.due("the other end's changes", 0, () -> x.changes(2, other));
        Check.due("the keys beside it", 0, () -> x.runs(1, 1) + x.runs(3, 1));
    }

    /** "DAYS 0 .. 31": those beside them, though days of other keys and times lie all around. */
    private static void noSuchDays() {
        TwoTimesTable x = new TwoTimesTable();
        for (int time = 0; time <= 2; time++) {
            Tables.tickTo(x, time);
            Tables.fillAll(x);
        }
        for (int day : NO_DAYS) {
            for (int key = 0; key <= 3; key++) {
                int k = key;
                Check.fails("value on day " + day, Check.ARGUMENT, () -> x.value(k, day, 1));
                Check.due("has on day " + day, 0, () -> Check.of(x.has(k, day, 1)));
                Check.fails("changes on day " + day, Check.ARGUMENT, () -> x.changes(k, day));
            }
        }
    }

    /** "the CLOCK shows 0 .. 39": there are the times from 0 to the present one, whatever that is. */
    private static void timesUpToThePresentOne() {
        for (int present = 0; present <= 39; present++) {
            int last = present;
            TwoTimesTable x = Seen.made(y -> {
                Tables.fillAll(y);
                Tables.tickTo(y, last);
            });
            timeIsThere(x, 0);
            timeIsThere(x, present);
            for (int time : new int[] {-1, present + 1, present + 2, 40, 41, 1 << 25, 1 << 30}) {
                timeIsNotThere(x, time);
            }
            timeIsNotThere(x, Integer.MAX_VALUE);
            timeIsNotThere(x, Integer.MIN_VALUE);
        }
    }

    private static void timeIsThere(TwoTimesTable x, int time) {
        String at = " at " + time + " of " + x.clock();
        Check.due("value" + at, 5, () -> x.value(3, 31, time));
        Check.due("has" + at, 1, () -> Check.of(x.has(3, 31, time)));
        Check.due("sum" + at, 160, () -> x.sum(3, 0, 32, time));
        Check.due("runs" + at, 1, () -> x.runs(3, time));
        Check.due("run" + at, 32, () -> x.run(3, time, 0, 1));
        Check.due("join" + at, 1, () -> x.join(3, 0, time, 6));
    }

    private static void timeIsNotThere(TwoTimesTable x, int time) {
        String at = " at " + time + " of " + x.clock();
        Check.fails("value" + at, Check.ARGUMENT, () -> x.value(3, 31, time));
        Check.due("has" + at, 0, () -> Check.of(x.has(3, 31, time)));
        Check.fails("sum" + at, Check.ARGUMENT, () -> x.sum(3, 0, 32, time));
        Check.fails("runs" + at, Check.ARGUMENT, () -> x.runs(3, time));
        Check.fails("run" + at, Check.ARGUMENT, () -> x.run(3, time, 0, 1));
        Check.fails("join" + at, Check.ARGUMENT, () -> x.join(3, 0, time, 6));
    }

    /** "A PERIOD is FROM, TO with 0 <= from < to <= 32": all that are near a bound, and some far away. */
    private static void whichPeriodsThereAre() {
        for (int from = -2; from <= 34; from++) {
            for (int to = -2; to <= 34; to++) {
                periodIs(from, to, from >= 0 && from < to && to <= 32);
            }
            for (int far : FAR) {
                periodIs(from, far, false);
                periodIs(far, from, false);
            }
        }
        for (int from : FAR) {
            for (int to : FAR) {
                periodIs(from, to, false);
            }
        }
    }

    private static void periodIs(int from, int to, boolean there) {
        String of = " of " + from + " to " + to;
        String days = there ? Integer.toString(to - from) : "throws.IllegalArgumentException";
        for (int kind = 0; kind <= 4; kind++) {
            int k = kind;
            TwoTimesTable x = new TwoTimesTable();
            if (kind >= 2) {
                x.state(0, 1, 5, 0, 32);
            }
            x.queue(kind, 1, 1, from, to);
            Check.same("commit" + of, days, Check.outcome(x::commit));
            TwoTimesTable y = new TwoTimesTable();
            if (kind >= 2) {
                y.state(0, 1, 5, 0, 32);
            }
            Check.same("state" + of, days, Check.outcome(() -> y.state(k, 1, 1, from, to)));
        }
        TwoTimesTable x = Seen.made(y -> y.state(0, 1, 1, 0, 32));
        Check.same("sum" + of, days, Check.outcome(() -> x.sum(1, from, to, 0)));
        String same = there ? "6" : "throws.IllegalArgumentException";
        Check.same("relation" + of + " twice", same, Check.outcome(() -> x.relation(from, to, from, to)));
        if (!there) {
            Check.fails("relation" + of, Check.ARGUMENT, () -> x.relation(from, to, 0, 32));
            Check.fails("relation to that" + of, Check.ARGUMENT, () -> x.relation(0, 32, from, to));
        }
    }

    /** "the days from .. to - 1": these and no others, for each kind and each period. */
    private static void theDaysOfAPeriod() {
        for (int from = 0; from < 32; from++) {
            for (int to = from + 1; to <= 32; to++) {
                changesJust(from, to, 0, false, 7);
                changesJust(from, to, 0, true, 7);
                changesJust(from, to, 1, false, 7);
                changesJust(from, to, 2, true, 7);
                changesJust(from, to, 3, true, 12);
                changesJust(from, to, 4, true, 0);
            }
        }
    }

    private static void changesJust(int from, int to, int kind, boolean filled, int inside) {
        TwoTimesTable x = new TwoTimesTable();
        if (filled) {
            x.state(0, 2, 5, 0, 32);
        }
        x.state(kind, 2, 7, from, to);
        for (int day = 0; day < 32; day++) {
            int d = day;
            boolean within = day >= from && day < to;
            boolean there = within ? kind != 4 : filled;
            String due = there ? Integer.toString(within ? inside : 5) : "throws.NoSuchElementException";
            Check.same("kind " + kind + " from " + from + " to " + to + " on day " + day, due,
                    Check.outcome(() -> x.value(2, d, 0)));
        }
        Check.due("the keys beside it", 0, () -> x.runs(1, 0) + x.runs(3, 0));
    }

    /** "a VALUE (an int)": the least, the greatest, 0, and what looks like NONE, by each way in and each way out. */
    private static void aValueIsAnyInt() {
        for (int value : VALUES) {
            for (int kind = 0; kind <= 3; kind++) {
                TwoTimesTable x = new TwoTimesTable();
                if (kind >= 2) {
                    x.state(1, 0, kind == 2 ? 12345 : 0, 3, 5);
                }
                x.state(kind, 0, value, 3, 5);
                String of = "value " + value + " by kind " + kind;
                Check.due(of, value, () -> x.value(0, 4, 0));
                Check.due(of + " has", 1, () -> Check.of(x.has(0, 3, 0)));
                Check.due(of + " sum", 2L * value, () -> x.sum(0, 0, 32, 0));
                Check.due(of + " run", value, () -> x.run(0, 0, 0, 2));
                Check.due(of + " row", value, () -> x.row(0, 1));
                Check.due(of + " again", 0, () -> x.state(0, 0, value, 3, 5));
            }
        }
    }

    /** "a VALUE (an int) or NOTHING": a 0 is no nothing, and what was taken out leaves no value behind. */
    private static void nothingIsNoValue() {
        TwoTimesTable x = new TwoTimesTable();
        Check.due("0 where there was nothing", 3, () -> x.state(0, 0, 0, 10, 13));
        Check.fails("0 is met", Check.STATE, () -> x.state(1, 0, 0, 12, 14));
        Check.due("0 is taken out", 1, () -> x.state(4, 0, 0, 11, 12));
        Check.due("two runs", 2, () -> x.runs(0, 0));
        Check.fails("nothing there", Check.ELEMENT, () -> x.value(0, 11, 0));
        Check.fails("nothing to change", Check.ELEMENT, () -> x.state(3, 0, 0, 11, 12));
        Check.due("0 again is another than nothing", 1, () -> x.state(0, 0, 0, 11, 12));
        Check.due("one run", 1, () -> x.runs(0, 0));
        x.tick();
        x.state(4, 0, 0, 0, 32);
        Check.due("0 to nothing is a change", 1, () -> x.changes(0, 12));
        Check.due("nothing to nothing is none", 0, () -> x.changes(0, 13));
        Check.due("the row of 0 ended", 1, () -> x.row(0, 5));
    }

    /** "When the clock goes on, the state of the new time is that of the time before, until it is changed". */
    private static void aNewTimeHasTheStateBefore() {
        TwoTimesTable x = new TwoTimesTable();
        x.state(0, 0, 1, 0, 1);
        x.state(0, 3, 2, 31, 32);
        for (int time = 1; time <= 39; time++) {
            int t = time;
            x.tick();
            Check.due("the first day of the first key at " + t, t, () -> x.value(0, 0, t));
            Check.due("the last day of the last key at " + t, t + 1, () -> x.value(3, 31, t));
            Check.due("and nothing else", 2, () -> x.runs(0, t) + x.runs(1, t) + x.runs(2, t) + x.runs(3, t));
            x.state(3, 0, 1, 0, 1);
            Check.due("changed at " + t, t + 1, () -> x.value(0, 0, t));
            x.state(3, 3, 1, 0, 32);
        }
    }

    /** "what statements change is the state of the present time alone": of none before, at any time. */
    private static void statementsLeaveEarlierTimes() {
        TwoTimesTable x = new TwoTimesTable();
        for (int time = 0; time <= 39; time++) {
            Tables.tickTo(x, time);
            x.state(0, 1, time, 0, 32);
        }
        x.queue(4, 1, 0, 0, 32);
        Check.due("commit at the last time", 32, x::commit);
        for (int time = 0; time <= 38; time++) {
            int t = time;
            Check.due("the first day at " + t, t, () -> x.value(1, 0, t));
            Check.due("all days at " + t, 32L * t, () -> x.sum(1, 0, 32, t));
        }
        Check.due("nothing at the last time", 0, () -> x.runs(1, 39));
    }

    /** "a time's state is what it was after the last statement at that time". */
    private static void theLastStatementOfATimeCounts() {
        TwoTimesTable x = new TwoTimesTable();
        x.state(0, 0, 1, 0, 4);
        x.state(0, 0, 2, 0, 4);
        x.state(4, 0, 0, 0, 1);
        x.tick();
        Check.fails("the statement that fails is none", Check.STATE, () -> x.state(1, 0, 3, 0, 4));
        Check.due("of the last put", 2, () -> x.value(0, 1, 0));
        Check.due("of the last delete", 0, () -> Check.of(x.has(0, 0, 0)));
        Check.due("one row", 1, x::rows);
        Check.due("its value", 2, () -> x.row(0, 1));
        x.state(2, 0, 7, 0, 32);
        x.state(2, 0, 2, 0, 32);
        Check.due("there and back makes no row", 1, x::rows);
        Check.due("nor an end", TwoTimesTable.NONE, () -> x.row(0, 5));
        Check.due("nor a change", 0, () -> x.changes(0, 1));
    }
}
