/** Promises 16 and 17: relation, join. */
public final class RelationTest {
    private static final int[] WRONG = {-1, Integer.MIN_VALUE, Integer.MAX_VALUE};

    public static void main(String[] args) {
        allPairsOfPeriods();
        wrongPeriods();
        joinCountsPairs();
        joinOfManyRuns();
        wrongJoins();
        Check.end("RelationTest");
    }

    /** The document's words for one relation of 0 to 6, each for itself. */
    private static boolean lies(int r, int a, int b, int c, int d) {
        return switch (r) {
            case 0 -> b < c;
            case 1 -> b == c;
            case 2 -> a < c && b > c && b < d;
            case 3 -> a == c && b < d;
            case 4 -> a > c && b < d;
            case 5 -> a > c && b == d;
            default -> a == c && b == d;
        };
    }

    private static int wanted(int a, int b, int c, int d) {
        int found = 0;
        int answer = 99;
        for (int r = 0; r <= 12; r++) {
            if (r <= 6 ? lies(r, a, b, c, d) : lies(12 - r, c, d, a, b)) {
                found++;
                answer = r;
            }
        }
        Check.holds("just one relation holds", found == 1);
        return answer;
    }

    private static void allPairsOfPeriods() {
        for (int a = 0; a < 32; a++) {
            for (int b = a + 1; b <= 32; b++) {
                for (int c = 0; c < 32; c++) {
                    TwoTimesTable x = new TwoTimesTable();
                    for (int d = c + 1; d <= 32; d++) {
                        int[] p = {a, b, c, d};
                        Check.due("relation", wanted(a, b, c, d), () -> x.relation(p[0], p[1], p[2], p[3]));
                    }
                }
            }
        }
    }

    private static void wrongPeriods() {
        TwoTimesTable x = new TwoTimesTable();
        for (int wrong : WRONG) {
            Check.fails("from", Check.ARGUMENT, () -> x.relation(wrong, 1, 0, 1));
            Check.fails("to", Check.ARGUMENT, () -> x.relation(0, wrong, 0, 1));
            Check.fails("otherFrom", Check.ARGUMENT, () -> x.relation(0, 1, wrong, 1));
            Check.fails("otherTo", Check.ARGUMENT, () -> x.relation(0, 1, 0, wrong));
        }
        Check.fails("empty", Check.ARGUMENT, () -> x.relation(3, 3, 0, 1));
        Check.fails("reversed", Check.ARGUMENT, () -> x.relation(4, 3, 0, 1));
        Check.fails("to 33", Check.ARGUMENT, () -> x.relation(3, 33, 0, 1));
        Check.fails("other empty", Check.ARGUMENT, () -> x.relation(0, 1, 32, 32));
        Check.fails("other reversed", Check.ARGUMENT, () -> x.relation(0, 1, 2, 1));
        Check.fails("other to 33", Check.ARGUMENT, () -> x.relation(0, 1, 2, 33));
    }

    private static void joinsAre(TwoTimesTable x, int key, int other, int time, int... counts) {
        for (int r = 0; r <= 12; r++) {
            int n = r;
            Check.due("join " + key + " " + other + " " + time + " " + r, counts[n], () -> x.join(key, other, time, n));
        }
    }

    private static void joinCountsPairs() {
        TwoTimesTable x = new TwoTimesTable();
        joinsAre(x, 0, 1, 0, 0, 0, 0, 0, 0, 0, 0, 0, 0, 0, 0, 0, 0);
        x.state(0, 0, 1, 2, 6);
        x.state(0, 0, 2, 8, 12);
        joinsAre(x, 0, 1, 0, 0, 0, 0, 0, 0, 0, 0, 0, 0, 0, 0, 0, 0);
        joinsAre(x, 0, 0, 0, 1, 0, 0, 0, 0, 0, 2, 0, 0, 0, 0, 0, 1);
        x.tick();
        x.state(0, 1, 9, 6, 9);
        x.state(0, 1, 8, 9, 12);
        x.state(0, 1, 7, 0, 3);
        joinsAre(x, 0, 1, 1, 1, 1, 0, 0, 0, 0, 0, 1, 0, 0, 2, 0, 1);
        joinsAre(x, 1, 0, 1, 1, 0, 2, 0, 0, 1, 0, 0, 0, 0, 0, 1, 1);
        joinsAre(x, 1, 0, 0, 0, 0, 0, 0, 0, 0, 0, 0, 0, 0, 0, 0, 0);
        joinsAre(x, 1, 1, 1, 2, 1, 0, 0, 0, 0, 3, 0, 0, 0, 0, 1, 2);
        x.tick();
        x.state(0, 2, 5, 3, 5);
        x.state(0, 3, 5, 3, 6);
        joinsAre(x, 2, 3, 2, 0, 0, 0, 1, 0, 0, 0, 0, 0, 0, 0, 0, 0);
        joinsAre(x, 3, 2, 2, 0, 0, 0, 0, 0, 0, 0, 0, 0, 1, 0, 0, 0);
        joinsAre(x, 2, 0, 2, 1, 0, 0, 0, 1, 0, 0, 0, 0, 0, 0, 0, 0);
        joinsAre(x, 0, 2, 2, 0, 0, 0, 0, 0, 0, 0, 0, 1, 0, 0, 0, 1);
    }

    private static void joinOfManyRuns() {
        TwoTimesTable x = new TwoTimesTable();
        for (int day = 0; day < 32; day++) {
            x.state(0, 0, day, day, day + 1);
            x.state(0, 3, -day, day, day + 1);
        }
        joinsAre(x, 0, 3, 0, 465, 31, 0, 0, 0, 0, 32, 0, 0, 0, 0, 31, 465);
    }

    private static void wrongJoins() {
        TwoTimesTable x = new TwoTimesTable();
        x.state(0, 0, 1, 0, 4);
        x.tick();
        for (int wrong : WRONG) {
            Check.fails("key", Check.ARGUMENT, () -> x.join(wrong, 0, 0, 0));
            Check.fails("other", Check.ARGUMENT, () -> x.join(0, wrong, 0, 0));
            Check.fails("time", Check.ARGUMENT, () -> x.join(0, 0, wrong, 0));
            Check.fails("r", Check.ARGUMENT, () -> x.join(0, 0, 0, wrong));
        }
        Check.fails("key 4", Check.ARGUMENT, () -> x.join(4, 0, 0, 0));
        Check.fails("other 4", Check.ARGUMENT, () -> x.join(0, 4, 0, 0));
        Check.fails("the time to come", Check.ARGUMENT, () -> x.join(0, 0, 2, 0));
        Check.fails("r 13", Check.ARGUMENT, () -> x.join(0, 0, 0, 13));
    }
}
