/** Tables that several tests begin with, made in few calls. */
final class Tables {
    private Tables() {
    }

    static void tickTo(TwoTimesTable x, int time) {
        while (x.clock() < time) {
            x.tick();
        }
    }

    /** Each key has 5 on all days. */
    static void fillAll(TwoTimesTable x) {
        for (int key = 0; key < 4; key++) {
            x.state(0, key, 5, 0, 32);
        }
    }

    /** A run on each day of a key; neighbours stay apart when less than 100 is added to one of them. */
    static void singleDays(TwoTimesTable x, int key) {
        for (int day = 0; day < 32; day++) {
            x.state(0, key, 100 * day, day, day + 1);
        }
    }

    /** At least 32 rows, all of key 0, the latest of which began before the present time. */
    static void rows(TwoTimesTable x, int count) {
        singleDays(x, 0);
        x.tick();
        for (int left = count - 32; left > 0; left -= 32) {
            x.state(3, 0, 1, 0, Math.min(left, 32));
            x.tick();
        }
    }
}
