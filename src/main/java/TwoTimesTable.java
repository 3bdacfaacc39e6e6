import java.util.NoSuchElementException;

/**
 * A table of values of keys over days that remembers what it said at each time of its clock.
 *
 * <p>The states of all times are kept side by side; runs and rows are read from them, so that
 * nothing but the states has to be put back when a statement fails.
 */
public final class TwoTimesTable {
    /** Where something is open, or not there. */
    public static final int NONE = -1;

    private static final int KEYS = 4;
    private static final int DAYS = 32;
    private static final int TIMES = 40;
    private static final int MOST_ROWS = 150;
    private static final int MOST_WAITING = 8;
    private static final int LAST_RELATION = 12;

    private static final int PUT = 0;
    private static final int INSERT = 1;
    private static final int UPDATE = 2;
    private static final int ADD = 3;
    private static final int DELETE = 4;

    // A statement answers a count of days, so what is below 0 is free to say how it failed.
    private static final int NO_STATEMENT = -1;
    private static final int NOTHING_TO_CHANGE = -2;
    private static final int NOT_ALLOWED = -3;

    private final States states;
    private final Waiting waiting;
    private int failedNumber;

    public TwoTimesTable() {
        states = new States();
        waiting = new Waiting();
        failedNumber = NONE;
    }

    public int tick() throws IllegalStateException {
        if (states.present >= TIMES - 1) {
            throw new IllegalStateException();
        }
        states.goOn();
        return states.present;
    }

    public int clock() {
        return states.present;
    }

    public int state(int kind, int key, int value, int from, int to)
            throws IllegalArgumentException, IllegalStateException, NoSuchElementException {
        states.save();
        int answer = states.perform(kind, key, value, from, to);
        if (answer < 0) {
            states.restore();
            refuse(answer);
        }
        return answer;
    }

    public boolean queue(int kind, int key, int value, int from, int to) {
        return waiting.append(kind, key, value, from, to);
    }

    public int commit() throws IllegalArgumentException, IllegalStateException, NoSuchElementException {
        states.save();
        failedNumber = NONE;
        int total = 0;
        int failure = 0;
        for (int i = 0; i < waiting.count && failedNumber == NONE; i++) {
            int answer = states.perform(waiting.word(i, 0), waiting.word(i, 1), waiting.word(i, 2),
                    waiting.word(i, 3), waiting.word(i, 4));
            if (answer < 0) {
                failedNumber = i;
                failure = answer;
            } else {
                total += answer;
            }
        }
        waiting.count = 0;
        if (failedNumber != NONE) {
            states.restore();
            refuse(failure);
        }
        return total;
    }

    public int failed() {
        return failedNumber;
    }

    public int value(int key, int day, int time) throws IllegalArgumentException, NoSuchElementException {
        if (!isKey(key) || !isDay(day) || !isTime(time)) {
            throw new IllegalArgumentException();
        }
        int slot = slotOf(time, key);
        if (!states.isFilled(slot, day)) {
            throw new NoSuchElementException();
        }
        return states.valueOn(slot, day);
    }

    public boolean has(int key, int day, int time) {
        return isKey(key) && isDay(day) && isTime(time) && states.isFilled(slotOf(time, key), day);
    }

    public long sum(int key, int from, int to, int time) throws IllegalArgumentException {
        if (!isKey(key) || !isPeriod(from, to) || !isTime(time)) {
            throw new IllegalArgumentException();
        }
        int slot = slotOf(time, key);
        long total = 0;
        for (int day = from; day < to; day++) {
            if (states.isFilled(slot, day)) {
                total += states.valueOn(slot, day);
            }
        }
        return total;
    }

    public int runs(int key, int time) throws IllegalArgumentException {
        if (!isKey(key) || !isTime(time)) {
            throw new IllegalArgumentException();
        }
        return states.countRuns(slotOf(time, key));
    }

    public int run(int key, int time, int k, int part)
            throws IllegalArgumentException, IndexOutOfBoundsException {
        if (!isKey(key) || !isTime(time) || part < 0 || part > 2) {
            throw new IllegalArgumentException();
        }
        int slot = slotOf(time, key);
        int from = states.runStart(slot, k);
        if (from == NONE) {
            throw new IndexOutOfBoundsException();
        }
        if (part == 0) {
            return from;
        }
        return part == 1 ? states.runEnd(slot, from) : states.valueOn(slot, from);
    }

    public int rows() {
        return states.countRows();
    }

    public int row(int k, int part) throws IllegalArgumentException, IndexOutOfBoundsException {
        if (part < 0 || part > 5) {
            throw new IllegalArgumentException();
        }
        if (k < 0 || k >= states.countRows()) {
            throw new IndexOutOfBoundsException();
        }
        return states.rowPart(k, part);
    }

    public int changes(int key, int day) throws IllegalArgumentException {
        if (!isKey(key) || !isDay(day)) {
            throw new IllegalArgumentException();
        }
        int count = 0;
        for (int time = 1; time <= states.present; time++) {
            if (states.differ(slotOf(time - 1, key), slotOf(time, key), day)) {
                count++;
            }
        }
        return count;
    }

    public int relation(int from, int to, int otherFrom, int otherTo) throws IllegalArgumentException {
        if (!isPeriod(from, to) || !isPeriod(otherFrom, otherTo)) {
            throw new IllegalArgumentException();
        }
        return relationOf(from, to, otherFrom, otherTo);
    }

    public int join(int key, int other, int time, int r) throws IllegalArgumentException {
        if (!isKey(key) || !isKey(other) || !isTime(time) || r < 0 || r > LAST_RELATION) {
            throw new IllegalArgumentException();
        }
        int slot = slotOf(time, key);
        int count = 0;
        for (int day = 0; day < DAYS; day++) {
            if (states.startsRun(slot, day)) {
                count += states.countRelated(day, states.runEnd(slot, day), slotOf(time, other), r);
            }
        }
        return count;
    }

    private static void refuse(int failure)
            throws IllegalArgumentException, IllegalStateException, NoSuchElementException {
        if (failure == NO_STATEMENT) {
            throw new IllegalArgumentException();
        }
        if (failure == NOTHING_TO_CHANGE) {
            throw new NoSuchElementException();
        }
        throw new IllegalStateException();
    }

    private static boolean isKey(int key) {
        return key >= 0 && key < KEYS;
    }

    private static boolean isDay(int day) {
        return day >= 0 && day < DAYS;
    }

    private static boolean isPeriod(int from, int to) {
        return from >= 0 && from < to && to <= DAYS;
    }

    private boolean isTime(int time) {
        return time >= 0 && time <= states.present;
    }

    private static int slotOf(int time, int key) {
        return time * KEYS + key;
    }

    private static int relationOf(int from, int to, int otherFrom, int otherTo) {
        int r = forwardRelation(from, to, otherFrom, otherTo);
        return r != NONE ? r : LAST_RELATION - forwardRelation(otherFrom, otherTo, from, to);
    }

    /** The relations 0 to 6; NONE where it is the other period that lies so to this one. */
    private static int forwardRelation(int from, int to, int otherFrom, int otherTo) {
        if (to <= otherFrom) {
            return to < otherFrom ? 0 : 1;
        }
        if (from < otherFrom) {
            return to < otherTo ? 2 : NONE;
        }
        if (to < otherTo) {
            return from == otherFrom ? 3 : 4;
        }
        if (to == otherTo) {
            return from > otherFrom ? 5 : 6;
        }
        return NONE;
    }

    /** What each key has on each day, at all times up to the present one. A slot is a key at a time. */
    private static final class States {
        // The state behind that of the last time is kept for what is put back after a failure.
        private static final int SAVED = TIMES;

        private final int[] values;
        private final int[] filled;
        private final int[] rowsBegun;
        private int present;

        States() {
            values = new int[(TIMES + 1) * KEYS * DAYS];
            filled = new int[(TIMES + 1) * KEYS];
            rowsBegun = new int[TIMES * KEYS];
            present = 0;
        }

        void goOn() {
            copyState(present, present + 1);
            present++;
        }

        void save() {
            copyState(present, SAVED);
        }

        void restore() {
            copyState(SAVED, present);
            for (int key = 0; key < KEYS; key++) {
                recountRows(key);
            }
        }

        private void copyState(int time, int toTime) {
            System.arraycopy(values, time * KEYS * DAYS, values, toTime * KEYS * DAYS, KEYS * DAYS);
            System.arraycopy(filled, time * KEYS, filled, toTime * KEYS, KEYS);
        }

        /** Answers as a statement does, or how it fails; then its marks stay until restore(). */
        int perform(int kind, int key, int value, int from, int to) {
            if (kind < PUT || kind > DELETE || !isKey(key) || !isPeriod(from, to)) {
                return NO_STATEMENT;
            }
            int slot = slotOf(present, key);
            boolean meetsValue = (filled[slot] & maskOf(from, to)) != 0;
            if (kind >= UPDATE && !meetsValue) {
                return NOTHING_TO_CHANGE;
            }
            if (kind == INSERT && meetsValue) {
                return NOT_ALLOWED;
            }
            int changed = 0;
            for (int day = from; day < to; day++) {
                if (changeDay(kind, slot, day, value)) {
                    changed++;
                }
            }
            recountRows(key);
            return countRows() > MOST_ROWS ? NOT_ALLOWED : changed;
        }

        private static int maskOf(int from, int to) {
            return (-1 << from) & (-1 >>> (DAYS - to));
        }

        private boolean changeDay(int kind, int slot, int day, int value) {
            boolean wasFilled = isFilled(slot, day);
            if (!wasFilled && kind >= UPDATE) {
                return false;
            }
            if (kind == DELETE) {
                filled[slot] &= ~(1 << day);
                return true;
            }
            int at = slot * DAYS + day;
            int next = kind == ADD ? values[at] + value : value;
            boolean changed = !wasFilled || values[at] != next;
            filled[slot] |= 1 << day;
            values[at] = next;
            return changed;
        }

        boolean isFilled(int slot, int day) {
            return ((filled[slot] >>> day) & 1) != 0;
        }

        int valueOn(int slot, int day) {
            return values[slot * DAYS + day];
        }

        boolean differ(int slot, int otherSlot, int day) {
            boolean there = isFilled(slot, day);
            if (there != isFilled(otherSlot, day)) {
                return true;
            }
            return there && valueOn(slot, day) != valueOn(otherSlot, day);
        }

        boolean startsRun(int slot, int day) {
            return isFilled(slot, day) && !continuesRun(slot, day);
        }

        private boolean continuesRun(int slot, int day) {
            if (day == 0 || ((filled[slot] >>> (day - 1)) & 3) != 3) {
                return false;
            }
            int at = slot * DAYS + day;
            return values[at] == values[at - 1];
        }

        /** Where the run ends that a day starts. */
        int runEnd(int slot, int from) {
            int to = from + 1;
            while (to < DAYS && continuesRun(slot, to)) {
                to++;
            }
            return to;
        }

        int countRuns(int slot) {
            int count = 0;
            for (int day = 0; day < DAYS; day++) {
                if (startsRun(slot, day)) {
                    count++;
                }
            }
            return count;
        }

        /** The first day of run k; NONE when there is no such run. */
        int runStart(int slot, int k) {
            int number = 0;
            for (int day = 0; day < DAYS; day++) {
                if (startsRun(slot, day)) {
                    if (number == k) {
                        return day;
                    }
                    number++;
                }
            }
            return NONE;
        }

        /** How many runs there are in a slot to which a period lies as r says. */
        int countRelated(int from, int to, int slot, int r) {
            int count = 0;
            for (int day = 0; day < DAYS; day++) {
                if (startsRun(slot, day) && relationOf(from, to, day, runEnd(slot, day)) == r) {
                    count++;
                }
            }
            return count;
        }

        int countRows() {
            int count = 0;
            for (int slot = 0; slot < (present + 1) * KEYS; slot++) {
                count += rowsBegun[slot];
            }
            return count;
        }

        private void recountRows(int key) {
            int slot = slotOf(present, key);
            int count = 0;
            for (int day = 0; day < DAYS; day++) {
                if (startsRow(slot, day)) {
                    count++;
                }
            }
            rowsBegun[slot] = count;
        }

        private boolean startsRow(int slot, int day) {
            if (!startsRun(slot, day)) {
                return false;
            }
            return slot < KEYS || !sharesRun(slot, slot - KEYS, day);
        }

        /** Whether the run that a day starts in a slot is a run with the same value in another one. */
        private boolean sharesRun(int slot, int otherSlot, int day) {
            return startsRun(otherSlot, day)
                    && valueOn(otherSlot, day) == valueOn(slot, day)
                    && runEnd(otherSlot, day) == runEnd(slot, day);
        }

        /** A part of row k, of which the caller knows that it is there. */
        int rowPart(int k, int part) {
            int left = k;
            for (int key = 0; key < KEYS; key++) {
                for (int time = 0; time <= present; time++) {
                    int begun = rowsBegun[slotOf(time, key)];
                    if (left < begun) {
                        return partOfRow(time, key, rowStart(slotOf(time, key), left), part);
                    }
                    left -= begun;
                }
            }
            return NONE;
        }

        /** The first day of row k of those that begin in a slot, of which the caller knows that it is there. */
        private int rowStart(int slot, int k) {
            int number = 0;
            for (int day = 0; day < DAYS; day++) {
                if (startsRow(slot, day)) {
                    if (number == k) {
                        return day;
                    }
                    number++;
                }
            }
            return 0;
        }

        private int partOfRow(int begin, int key, int from, int part) {
            int slot = slotOf(begin, key);
            switch (part) {
                case 0:
                    return key;
                case 1:
                    return valueOn(slot, from);
                case 2:
                    return from;
                case 3:
                    return runEnd(slot, from);
                case 4:
                    return begin;
                default:
                    return rowEnd(begin, key, from);
            }
        }

        private int rowEnd(int begin, int key, int from) {
            int slot = slotOf(begin, key);
            for (int time = begin + 1; time <= present; time++) {
                if (!sharesRun(slot, slotOf(time, key), from)) {
                    return time;
                }
            }
            return NONE;
        }
    }

    /** The statements that wait, in their order. */
    private static final class Waiting {
        private static final int WORDS = 5;

        private final int[] words;
        private int count;

        Waiting() {
            words = new int[MOST_WAITING * WORDS];
            count = 0;
        }

        boolean append(int kind, int key, int value, int from, int to) {
            if (count >= MOST_WAITING) {
                return false;
            }
            int at = count * WORDS;
            words[at] = kind;
            words[at + 1] = key;
            words[at + 2] = value;
            words[at + 3] = from;
            words[at + 4] = to;
            count++;
            return true;
        }

        /** A word of a statement that waits, in the order of append()'s parameters. */
        int word(int number, int part) {
            return words[number * WORDS + part];
        }
    }
}
