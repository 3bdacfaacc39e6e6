/** What the tests have in common: comparing answers and exceptions, and the exit code. */
final class Check {
    interface Call {
        long answer();
    }

    static final Class<?> ARGUMENT = IllegalArgumentException.class;
    static final Class<?> STATE = IllegalStateException.class;
    static final Class<?> ELEMENT = java.util.NoSuchElementException.class;
    static final Class<?> INDEX = IndexOutOfBoundsException.class;

    private static int wrong = 0;
    private static int looked = 0;

    private Check() {
    }

    static long of(boolean answer) {
        return answer ? 1 : 0;
    }

    static void due(String what, long want, Call call) {
        same(what, Long.toString(want), outcome(call));
    }

    static void holds(String what, boolean answer) {
        same(what, "true", Boolean.toString(answer));
    }

    static void fails(String what, Class<?> want, Call call) {
        same(what, "throws." + want.getSimpleName(), outcome(call));
    }

    static void same(String what, String want, String got) {
        looked++;
        if (!got.equals(want)) {
            wrong++;
            System.out.println(what + " answered " + got + ", due is " + want);
        }
    }

    /** The exception's own class is told, so that a subclass of the one that is due counts as wrong. */
    static String outcome(Call call) {
        try {
            return Long.toString(call.answer());
        } catch (RuntimeException e) {
            return "throws." + e.getClass().getSimpleName();
        }
    }

    static boolean anyWrong() {
        return wrong != 0;
    }

    static void end(String name) {
        System.out.println(name + ": " + looked + " answers looked at, " + wrong + " wrong");
        if (wrong != 0 || looked == 0) {
            System.exit(1);
        }
    }
}
