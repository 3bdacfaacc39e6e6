/** STATEMENTS in "Terms" of the document, and promise 4: each sentence at its bounds. */
public final class StatementBoundsTest {
    private static final int[] NO_KINDS = {-1, 5, 6, 256, 1 << 30, Integer.MAX_VALUE, Integer.MIN_VALUE};

    public static void main(String[] args) {
        whichKindsThereAre();
        anInsertMustMeetNothing();
        othersMustFindSomething();
        aPutMayMeetAnything();
        updateAndAddLeaveNothingAlone();
        intsWrapWhenAddAdds();
        theValueOfADeleteCountsForNothing();
        howManyDaysAreOthers();
        whatFailsChangesNothing();
        wrongBeforeNothingToChange();
        wrongBeforeMeeting();
        wrongAndNothingBeforeFull();
        oneRowMore();
        twoAndThreeRowsMore();
        noRowMoreWhenFull();
        fewerRowsWhenFull();
        oneRowMoreThanAllTimesTogether();
        Check.end("StatementBoundsTest");
    }

    /** "when there is no such kind": 0 and 4 are the first and the last. */
    private static void whichKindsThereAre() {
        for (int wrong : NO_KINDS) {
            Seen.Question statement = x -> x.state(wrong, 0, 1, 0, 32);
            Seen.refused("kind " + wrong + " on values", Check.ARGUMENT, Tables::fillAll, statement);
            Seen.refused("kind " + wrong + " on nothing", Check.ARGUMENT, TwoTimesTable::tick, statement);
            TwoTimesTable x = new TwoTimesTable();
            x.queue(wrong, 0, 1, 0, 32);
            Check.fails("kind " + wrong + " that waited", Check.ARGUMENT, x::commit);
        }
        TwoTimesTable x = new TwoTimesTable();
        Check.due("kind 0", 32, () -> x.state(0, 0, 1, 0, 32));
        Check.due("kind 4", 32, () -> x.state(4, 0, 1, 0, 32));
        Check.due("kind 0 put, kind 4 took out", 0, () -> x.runs(0, 0));
    }

    /** "INSERT: .. it must have nothing on all of them": one day that has a value, each period beside and around it. */
    private static void anInsertMustMeetNothing() {
        for (int day = 0; day < 32; day++) {
            for (int from = 0; from < 32; from++) {
                for (int to = from + 1; to <= 32; to++) {
                    insertMeets(day, from, to);
                }
            }
        }
    }

    private static void insertMeets(int day, int from, int to) {
        TwoTimesTable x = new TwoTimesTable();
        x.state(1, 3, 5, day, day + 1);
        String what = "insert from " + from + " to " + to + " with a value on " + day;
        if (day < from || day >= to) {
            Check.due(what, to - from, () -> x.state(1, 3, 5, from, to));
            return;
        }
        Check.fails(what, Check.STATE, () -> x.state(1, 3, 5, from, to));
        Check.due(what + ", days behind it", 5, () -> x.sum(3, 0, 32, 0));
        Check.due("on another key", to - from, () -> x.state(1, 2, 5, from, to));
    }

    /** "when an UPDATE, ADD or DELETE finds nothing to change": as above, the other way round. */
    private static void othersMustFindSomething() {
        for (int day = 0; day < 32; day++) {
            for (int from = 0; from < 32; from++) {
                for (int to = from + 1; to <= 32; to++) {
                    for (int kind = 2; kind <= 4; kind++) {
                        findsSomething(kind, day, from, to);
                    }
                }
            }
        }
    }

    private static void findsSomething(int kind, int day, int from, int to) {
        TwoTimesTable x = new TwoTimesTable();
        x.state(1, 0, 5, day, day + 1);
        String what = "kind " + kind + " from " + from + " to " + to + " with a value on " + day;
        if (day >= from && day < to) {
            Check.due(what, 1, () -> x.state(kind, 0, 3, from, to));
            Check.due(what + ", days behind it", kind == 4 ? 0 : kind == 3 ? 8 : 3, () -> x.sum(0, 0, 32, 0));
            return;
        }
        Check.fails(what, Check.ELEMENT, () -> x.state(kind, 0, 3, from, to));
        Check.due(what + ", days behind it", 5, () -> x.sum(0, 0, 32, 0));
        Check.fails("on another key", Check.ELEMENT, () -> x.state(kind, 1, 3, 0, 32));
    }

    /** "PUT: it has the value on all of them", whatever it had there: nothing, the same, another, or some of each. */
    private static void aPutMayMeetAnything() {
        TwoTimesTable x = new TwoTimesTable();
        Check.due("nothing", 3, () -> x.state(0, 0, 5, 0, 3));
        Check.due("the same", 0, () -> x.state(0, 0, 5, 0, 3));
        Check.due("another", 3, () -> x.state(0, 0, 6, 0, 3));
        Check.due("some of each", 4, () -> x.state(0, 0, 5, 2, 6));
        Check.due("all days", 30, () -> x.state(0, 0, 6, 0, 32));
        Check.due("one run", 1, () -> x.runs(0, 0));
    }

    /** "on those days on which it has a value", "to those that it has there": not on the days between. */
    private static void updateAndAddLeaveNothingAlone() {
        for (int kind = 2; kind <= 3; kind++) {
            int k = kind;
            TwoTimesTable x = new TwoTimesTable();
            x.state(0, 1, 5, 0, 1);
            x.state(0, 1, 5, 15, 17);
            x.state(0, 1, 5, 31, 32);
            Check.due("first, middle and last days", 4, () -> x.state(k, 1, 4, 0, 32));
            Check.due("three runs stay three", 3, () -> x.runs(1, 0));
            Check.due("their sum", kind == 2 ? 16 : 36, () -> x.sum(1, 0, 32, 0));
            for (int day : new int[] {1, 14, 17, 30}) {
                Check.due("nothing on " + day, 0, () -> Check.of(x.has(1, day, 0)));
            }
            Check.due("the period ends within a run", 1, () -> x.state(k, 1, 1, 1, 16));
            Check.due("the period begins within a run", 1, () -> x.state(k, 1, 1, 16, 31));
            Check.fails("the days between", Check.ELEMENT, () -> x.state(k, 1, 1, 1, 15));
            Check.fails("the days between", Check.ELEMENT, () -> x.state(k, 1, 1, 17, 31));
        }
    }

    /** "the value given is added to those that it has there (ints wrap)": up to both bounds, and over them. */
    private static void intsWrapWhenAddAdds() {
        int max = Integer.MAX_VALUE;
        int min = Integer.MIN_VALUE;
        adds(max - 1, 1, max);
        adds(max, 1, min);
        adds(max, 2, min + 1);
        adds(1, max, min);
        adds(max, max, -2);
        adds(min + 1, -1, min);
        adds(min, -1, max);
        adds(min, -2, max - 1);
        adds(-1, min, max);
        adds(min, min, 0);
        adds(0, min, min);
        adds(max, min, -1);
        adds(min, max, -1);
        adds(1, -1, 0);
        adds(0, -1, -1);
        TwoTimesTable x = new TwoTimesTable();
        x.state(0, 0, max, 0, 1);
        x.state(0, 0, min, 1, 2);
        x.state(0, 0, -1, 2, 3);
        Check.due("each for itself", 3, () -> x.state(3, 0, 1, 0, 3));
        Check.due("their sum is a long", 2L * min + 1, () -> x.sum(0, 0, 3, 0));
        Check.due("wrapped below", min, () -> x.run(0, 0, 0, 2));
        x.queue(3, 0, -1, 0, 1);
        x.queue(3, 0, -1, 0, 1);
        Check.due("in a commit as well", 2, x::commit);
        Check.due("and back", max - 1, () -> x.value(0, 0, 0));
    }

    private static void adds(int had, int value, int due) {
        TwoTimesTable x = new TwoTimesTable();
        x.state(0, 2, had, 5, 8);
        x.tick();
        Check.due(had + " and " + value, 3, () -> x.state(3, 2, value, 4, 9));
        Check.due(had + " and " + value, due, () -> x.value(2, 7, 1));
        Check.due("the row that ended", had, () -> x.row(0, 1));
        Check.due("the row that began", due, () -> x.row(1, 1));
        Check.due("nothing added", 0, () -> x.state(3, 2, 0, 4, 9));
    }

    /** "DELETE: it has nothing on all of them (the value counts for nothing)". */
    private static void theValueOfADeleteCountsForNothing() {
        for (int value : new int[] {Integer.MIN_VALUE, -1, 0, 4, 5, 6, Integer.MAX_VALUE}) {
            TwoTimesTable x = new TwoTimesTable();
            x.state(0, 0, 5, 0, 4);
            Check.due("delete with " + value, 2, () -> x.state(4, 0, value, 1, 3));
            Check.due("nothing", 0, () -> Check.of(x.has(0, 1, 0) || x.has(0, 2, 0)));
            Check.due("beside it", 10, () -> x.sum(0, 0, 32, 0));
            Check.due("the rest", 2, () -> x.state(4, 0, value, 0, 32));
            Check.due("no rows", 0, x::rows);
        }
    }

    /** "on how many days the value, or whether there is one, is another than before it": none, one, all. */
    private static void howManyDaysAreOthers() {
        TwoTimesTable x = new TwoTimesTable();
        Check.due("insert on one", 1, () -> x.state(1, 0, 5, 31, 32));
        Check.due("put the same on it and nothing", 31, () -> x.state(0, 0, 5, 0, 32));
        Check.due("put the same", 0, () -> x.state(0, 0, 5, 0, 32));
        Check.due("update to the same", 0, () -> x.state(2, 0, 5, 0, 32));
        Check.due("add nothing", 0, () -> x.state(3, 0, 0, 0, 32));
        Check.due("update one", 1, () -> x.state(2, 0, 6, 0, 1));
        Check.due("update the others", 31, () -> x.state(2, 0, 6, 0, 32));
        Check.due("add to all", 32, () -> x.state(3, 0, 1, 0, 32));
        Check.due("delete one", 1, () -> x.state(4, 0, 0, 15, 16));
        Check.due("add to the others", 31, () -> x.state(3, 0, -1, 0, 32));
        Check.due("delete the others", 31, () -> x.state(4, 0, 0, 0, 32));
        Check.due("insert on all", 32, () -> x.state(1, 0, 0, 0, 32));
        Check.due("delete all", 32, () -> x.state(4, 0, 0, 0, 32));
        x.state(0, 1, 1, 0, 8);
        x.tick();
        Check.due("the present state is what it was before", 8, () -> x.state(2, 1, 2, 0, 8));
        Check.due("not the state of the time before", 8, () -> x.state(2, 1, 1, 0, 8));
    }

    /** "A statement FAILS, and changes nothing": neither the table, nor what waits, nor failed(). */
    private static void whatFailsChangesNothing() {
        Seen.Making making = x -> {
            x.queue(9, 0, 0, 0, 0);
            Check.outcome(x::commit);
            Tables.rows(x, 148);
            x.state(0, 3, 8, 4, 9);
            x.state(0, 1, 8, 4, 9);
            x.queue(4, 3, 0, 5, 6);
            x.queue(4, 1, 0, 3, 32);
        };
        Check.due("full", 150, () -> Seen.made(making).rows());
        Seen.refused("no kind", Check.ARGUMENT, making, x -> x.state(5, 3, 1, 4, 9));
        Seen.refused("no key", Check.ARGUMENT, making, x -> x.state(0, 4, 1, 4, 9));
        Seen.refused("no period", Check.ARGUMENT, making, x -> x.state(0, 3, 1, 4, 33));
        Seen.refused("update of nothing", Check.ELEMENT, making, x -> x.state(2, 3, 1, 9, 32));
        Seen.refused("add to nothing", Check.ELEMENT, making, x -> x.state(3, 3, 1, 0, 4));
        Seen.refused("delete of nothing", Check.ELEMENT, making, x -> x.state(4, 2, 1, 0, 32));
        Seen.refused("insert on a value", Check.STATE, making, x -> x.state(1, 3, 1, 8, 10));
        Seen.refused("put when full", Check.STATE, making, x -> x.state(0, 3, 1, 9, 12));
        Seen.refused("insert when full", Check.STATE, making, x -> x.state(1, 2, 1, 0, 32));
        Seen.refused("update when full", Check.STATE, making, x -> x.state(2, 3, 1, 0, 6));
        Seen.refused("add when full", Check.STATE, making, x -> x.state(3, 0, 1, 0, 32));
        Seen.refused("delete when full", Check.STATE, making, x -> x.state(4, 1, 1, 6, 7));
    }

    /** "(Looked at in this order.)": what makes it no statement, before there being nothing to change. */
    private static void wrongBeforeNothingToChange() {
        TwoTimesTable x = new TwoTimesTable();
        for (int kind = 2; kind <= 4; kind++) {
            int k = kind;
            Check.fails("no key", Check.ARGUMENT, () -> x.state(k, 4, 1, 0, 32));
            Check.fails("no key", Check.ARGUMENT, () -> x.state(k, -1, 1, 0, 32));
            Check.fails("to 33", Check.ARGUMENT, () -> x.state(k, 0, 1, 0, 33));
            Check.fails("from -1", Check.ARGUMENT, () -> x.state(k, 0, 1, -1, 32));
            Check.fails("an empty one", Check.ARGUMENT, () -> x.state(k, 0, 1, 7, 7));
            Check.fails("nothing to change", Check.ELEMENT, () -> x.state(k, 0, 1, 7, 8));
        }
    }

    /** "(Looked at in this order.)": what makes it no statement, before an INSERT's meeting a value. */
    private static void wrongBeforeMeeting() {
        TwoTimesTable x = Seen.made(Tables::fillAll);
        Check.fails("no key", Check.ARGUMENT, () -> x.state(1, 4, 1, 0, 32));
        Check.fails("no key", Check.ARGUMENT, () -> x.state(1, -1, 1, 0, 32));
        Check.fails("to 33", Check.ARGUMENT, () -> x.state(1, 0, 1, 0, 33));
        Check.fails("from -1", Check.ARGUMENT, () -> x.state(1, 0, 1, -1, 32));
        Check.fails("an empty one", Check.ARGUMENT, () -> x.state(1, 0, 1, 7, 7));
        Check.fails("meeting", Check.STATE, () -> x.state(1, 0, 1, 7, 8));
    }

    /** "(Looked at in this order.)": what makes it no statement and nothing to change, before the limit of rows. */
    private static void wrongAndNothingBeforeFull() {
        TwoTimesTable x = Seen.made(y -> Tables.rows(y, 150));
        for (int kind = 0; kind <= 4; kind++) {
            int k = kind;
            Check.fails("no key", Check.ARGUMENT, () -> x.state(k, 4, 1, 0, 32));
            Check.fails("no period", Check.ARGUMENT, () -> x.state(k, 1, 1, 0, 33));
            Check.fails("an empty one", Check.ARGUMENT, () -> x.state(k, 1, 1, 32, 32));
        }
        Check.fails("no kind", Check.ARGUMENT, () -> x.state(5, 1, 1, 0, 32));
        Check.fails("update", Check.ELEMENT, () -> x.state(2, 1, 1, 0, 32));
        Check.fails("add", Check.ELEMENT, () -> x.state(3, 1, 1, 0, 32));
        Check.fails("delete", Check.ELEMENT, () -> x.state(4, 1, 1, 0, 32));
        Check.fails("put", Check.STATE, () -> x.state(0, 1, 1, 0, 32));
        Check.fails("insert", Check.STATE, () -> x.state(1, 1, 1, 0, 32));
    }

    /** A table with so many rows, the last one of key 3, with 8 on the days 4 to 8 since the time before. */
    private static Seen.Making olderRun(int rows) {
        return x -> {
            Tables.rows(x, rows - 1);
            x.state(0, 3, 8, 4, 9);
            x.tick();
        };
    }

    /** With so many rows before it a statement makes 150; with one more it would make 151, and is refused. */
    private static void reaches150(String what, int before, long answer, Seen.Question statement) {
        TwoTimesTable x = Seen.made(olderRun(before));
        Check.due(what + ", rows before", before, x::rows);
        Check.due(what, answer, () -> statement.of(x));
        Check.due(what + ", rows behind", 150, x::rows);
        Seen.refused(what + " with a row more", Check.STATE, olderRun(before + 1), statement);
        TwoTimesTable y = Seen.made(olderRun(before - 1));
        Check.due(what + " with a row less", answer, () -> statement.of(y));
        Check.due(what + " with a row less, rows behind", 149, y::rows);
    }

    /** "when there would be more than 150 rows behind it": 149, 150 and 151 by one row, with each kind. */
    private static void oneRowMore() {
        reaches150("put on nothing", 149, 3, x -> x.state(0, 3, 8, 20, 23));
        reaches150("put over the run", 149, 5, x -> x.state(0, 3, 9, 4, 9));
        reaches150("put to make it longer", 149, 1, x -> x.state(0, 3, 8, 9, 10));
        reaches150("insert", 149, 32, x -> x.state(1, 2, 0, 0, 32));
        reaches150("insert beside it", 149, 1, x -> x.state(1, 3, 7, 3, 4));
        reaches150("update", 149, 5, x -> x.state(2, 3, 9, 0, 32));
        reaches150("add", 149, 5, x -> x.state(3, 3, Integer.MIN_VALUE, 0, 32));
        reaches150("delete at its end", 149, 1, x -> x.state(4, 3, 0, 8, 9));
        reaches150("delete at its beginning", 149, 2, x -> x.state(4, 3, 0, 0, 6));
    }

    /** The same bound, by statements that make more than one row of an older one. */
    private static void twoAndThreeRowsMore() {
        reaches150("delete inside it", 148, 1, x -> x.state(4, 3, 0, 6, 7));
        reaches150("update at its end", 148, 2, x -> x.state(2, 3, 9, 7, 32));
        reaches150("add at its beginning", 148, 1, x -> x.state(3, 3, 1, 0, 5));
        reaches150("put over its end", 148, 4, x -> x.state(0, 3, 9, 8, 12));
        reaches150("put inside it", 147, 1, x -> x.state(0, 3, 9, 6, 7));
        reaches150("update inside it", 147, 3, x -> x.state(2, 3, 9, 5, 8));
        reaches150("add inside it", 147, 2, x -> x.state(3, 3, -1, 5, 7));
        reaches150("all days of key 0", 118, 32, x -> x.state(3, 0, 9, 0, 32));
    }

    /** 150 rows are no more than 150: what makes no row more is done, whether it changes something or not. */
    private static void noRowMoreWhenFull() {
        TwoTimesTable x = Seen.made(y -> {
            Tables.rows(y, 149);
            y.state(0, 3, 8, 4, 9);
        });
        Check.due("full", 150, x::rows);
        Check.due("another value for a row of this time", 5, () -> x.state(0, 3, 9, 4, 9));
        Check.due("and by update", 5, () -> x.state(2, 3, 10, 0, 32));
        Check.due("and by add", 5, () -> x.state(3, 3, 1, 0, 32));
        Check.due("a longer period", 3, () -> x.state(0, 3, 11, 2, 10));
        Check.due("a shorter one", 1, () -> x.state(4, 3, 0, 2, 3));
        Check.due("put of the same", 0, () -> x.state(0, 3, 11, 3, 10));
        Check.due("an old row taken out whole", 1, () -> x.state(4, 0, 0, 31, 32));
        Check.due("and put back", 1, () -> x.state(1, 0, 3103, 31, 32));
        Check.due("full", 150, x::rows);
        Check.fails("one more", Check.STATE, () -> x.state(1, 2, 0, 0, 1));
        Check.due("full", 150, x::rows);
    }

    /** What makes fewer rows makes room for just as many. */
    private static void fewerRowsWhenFull() {
        TwoTimesTable x = Seen.made(y -> {
            Tables.rows(y, 148);
            y.state(0, 3, 8, 4, 9);
            y.state(0, 3, 7, 9, 12);
        });
        Check.due("full", 150, x::rows);
        Check.due("two runs become one", 3, () -> x.state(0, 3, 8, 9, 12));
        Check.due("one less", 149, x::rows);
        Check.due("one row", 1, () -> x.state(1, 1, 0, 31, 32));
        Check.fails("and no other", Check.STATE, () -> x.state(1, 2, 0, 31, 32));
        Check.due("taken out at its own time", 8, () -> x.state(4, 3, 0, 0, 32));
        Check.due("one less", 149, x::rows);
        Check.due("an older row ends, one begins", 1, () -> x.state(3, 0, 1, 31, 32));
        Check.due("full", 150, x::rows);
        Check.fails("no other", Check.STATE, () -> x.state(3, 0, 1, 30, 31));
    }

    /** The rows of all keys and times count together, those that ended long ago as well. */
    private static void oneRowMoreThanAllTimesTogether() {
        TwoTimesTable x = new TwoTimesTable();
        for (int time = 0; time <= 36; time++) {
            Tables.tickTo(x, time);
            for (int key = 0; key <= 3; key++) {
                x.state(time == 0 ? 1 : 3, key, 1, 0, 32);
            }
        }
        x.tick();
        Check.due("148", 148, x::rows);
        Check.due("to nothing", 32, () -> x.state(4, 0, 0, 0, 32));
        Check.due("an ended row stays a row", 148, x::rows);
        Check.due("149", 32, () -> x.state(3, 1, 1, 0, 32));
        x.tick();
        Check.due("150, of a run that had ended", 32, () -> x.state(1, 0, 37, 0, 32));
        Check.due("150", 150, x::rows);
        Check.fails("151", Check.STATE, () -> x.state(3, 2, 1, 0, 32));
        Check.due("39", 39, x::tick);
        Check.fails("151 at the last time", Check.STATE, () -> x.state(3, 3, 1, 0, 32));
        Check.due("the last row", 36, () -> x.row(149, 4));
        Check.fails("none behind it", Check.INDEX, () -> x.row(150, 4));
    }
}
